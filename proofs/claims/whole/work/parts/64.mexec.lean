set_option maxHeartbeats 1000000 in
set_option maxRecDepth 100000 in
theorem c_M_execute_b1 (l : Launch) (G : xG) (d : xd) (tx : Nat → Nat) (L : Nat) (hL : L ≤ 60) (ht7 : ∀ j, j < L → tx j < 128) (Ew Fw : Nat → xd) (cp : Nat → Nat) (k9 : Nat) (hk9 : k9 ≤ 15) (hE0 : Ew 0 = x_p (x_p d 175 13 0) 175 14 0) (hpc : ∀ i, i ≤ k9 → x_M G l yX12_parsesCommand wsX12_parsesCommand 5 0 0 [.ref (x_b G + 175), .int (nI (3 * i))] (Ew i) none (Fw i)) (hF : ∀ i, i ≤ k9 → Fw i 175 13 = nI (cp i) ∧ cp i ≤ L ∧ Fw i 175 7 = nI L ∧ (∀ j, j < L → Fw i 180 j = nI (tx j))) (hgo : ∀ i, i < k9 → Fw i 175 14 = 0 ∧ tp_c tx L (cp i) 59 = true ∧ Ew (i + 1) = x_p (Fw i) 175 13 (nI (cp i + 1))) (hw9 : Fw k9 175 14 = 1) : x_M G l yX12_execute wsX12_execute 7 0 0 [.ref (x_b G + 175)] d (some (.int 0)) (x_p (x_p (x_p (x_p (x_p (Fw k9) 175 13 (nI (cp k9))) 175 14 1) 175 7 0) 175 8 (nI (cp k9))) 175 12 1) := by
  have iX12 : ∀ w ∈ u_ws RX12 TX12 16, w ∈ wsX12_execute := by decide +kernel
  refine x_start (cc := cX12_execute) (maxL := 5) (ret := (some .int)) (own := RX12) (by decide) rfl rfl (Nat.le_of_ble_eq_true rfl) (lst := [(0, .ref (x_b G + 175))]) rfl ?_
  intro p e s m args below meth c C hr hlocks
  refine a_aload_n C dX12_execute_0 0 rfl ?_
  refine a_iconst C dX12_execute_1 (v := 0) (by decide) ?_
  refine a_putI C (k := 175) iX12 tyX12_ok nmX12 x_k175 rfl (j := 13) rfl (by decide) (by decide +kernel) rfl (ty := .int) (by decide +kernel) rfl rfl dX12_execute_2 ?_
  refine a_aload_n C dX12_execute_5 0 rfl ?_
  refine a_iconst C dX12_execute_6 (v := 0) (by decide) ?_
  refine a_putI C (k := 175) iX12 tyX12_ok nmX12 x_k175 rfl (j := 14) rfl (by decide) (by decide +kernel) rfl (ty := .boolean) (by decide +kernel) rfl rfl dX12_execute_7 ?_
  refine a_iconst C dX12_execute_10 (v := 0) (by decide) ?_
  refine a_istore_n C dX12_execute_11 (by decide) (lst2 := [(1, .int 0), (0, .ref (x_b G + 175))]) rfl ?_
  refine a_iconst C dX12_execute_12 (v := 1) (by decide) ?_
  refine a_istore_n C dX12_execute_13 (by decide) (lst2 := [(2, .int 1), (1, .int 0), (0, .ref (x_b G + 175))]) rfl ?_
  have L14 : ∀ (j i : Nat), i ≤ k9 → k9 < i + j → Ab G p l e (x_rm 7 0 0) s m args below meth c 5 0 0 (MQ below (x_Q G (some (.int 0)) (x_p (x_p (x_p (x_p (x_p (Fw k9) 175 13 (nI (cp k9))) 175 14 1) 175 7 0) 175 8 (nI (cp k9))) 175 12 1)) args s 0 0 (x_A G)) 14 [(2, .int 1), (1, .int (nI i)), (0, .ref (x_b G + 175))] [] (Ew i) := by
    intro j
    induction j with
    | zero => intro i h1 h2; exact absurd h2 (by omega)
    | succ j ih =>
      intro i hi hj 
      refine a_iload_n C dX12_execute_14 0 rfl ?_
      refine a_if_eq C dX12_execute_15 (tgt := 71) (by decide) (fun h => absurd h (by decide)) (fun _ => ?_)
      rcases Nat.lt_or_ge i k9 with hik | hik
      · skip
        obtain ⟨hf13, hfL, hf7, hf180⟩ := hF i (by omega)
        obtain ⟨hg14, h59, hE⟩ := hgo i hik
        have hpc9 := hpc i (by omega)
        refine a_aload_n C dX12_execute_18 2 rfl ?_
        refine a_iconst C dX12_execute_19 (v := 3) (by decide) ?_
        refine a_iload_n C dX12_execute_20 1 rfl ?_
        refine a_imul C dX12_execute_21 ?_
        refine a_top (y := (nI (3 * i))) (pk_mul 3 i) ?_
        refine a_callV C (k := 175) (As := [.int (nI (3 * i))]) (rest := []) (hpc9) (cwV 1 C.1.2.2.2.2 gX12_execute_X12_parsesCommand rfl rfl rfl (by decide +kernel) ⟨Nat.le_of_ble_eq_true rfl, Nat.le_of_ble_eq_true rfl⟩) x_k175 (q := (RX12, TX12, 16)) rfl rfl rfl rfl (Nat.le_of_ble_eq_true rfl) dX12_execute_22 ⟨Nat.le_of_ble_eq_true rfl, Nat.le_of_ble_eq_true rfl⟩ ?_
        refine a_iinc C dX12_execute_25 1 rfl (v := (nI (i + 1))) (x_inc i) (by decide) (lst2 := [(1, .int (nI (i + 1))), (2, .int 1), (0, .ref (x_b G + 175))]) rfl ?_
        refine a_aload_n C dX12_execute_28 2 rfl ?_
        refine a_getI C (k := 175) iX12 x_k175 rfl (j := 14) rfl (by decide) (by decide +kernel) dX12_execute_29 ?_
        refine a_top (y := 0) hg14 ?_
        refine a_if_ne C dX12_execute_32 (tgt := 48) (by decide) (fun h => absurd h (by decide)) (fun _ => ?_)
        refine a_aload_n C dX12_execute_35 2 rfl ?_
        refine a_callV C (k := 175) (As := []) (rest := []) (c_M_here l G (Fw i) tx L hL hf7 hf180 ht7 (cp i) hf13 (by omega)) (cwV 0 C.1.2.2.2.2 gX12_execute_X12_here rfl rfl rfl (by decide +kernel) ⟨Nat.le_of_ble_eq_true rfl, Nat.le_of_ble_eq_true rfl⟩) x_k175 (q := (RX12, TX12, 16)) rfl rfl rfl rfl (Nat.le_of_ble_eq_true rfl) dX12_execute_36 ⟨Nat.le_of_ble_eq_true rfl, Nat.le_of_ble_eq_true rfl⟩ ?_
        refine a_bipush C dX12_execute_39 (v := 59) (by decide) ?_
        refine a_icmp_ne C dX12_execute_41 (tgt := 48) (by decide) (fun h => False.elim (h ((tp_h_c (a := 59) ht7 (by omega)).mpr h59))) (fun h41 => ?_)
        refine a_iconst C dX12_execute_44 (v := 1) (by decide) ?_
        refine a_goto C dX12_execute_45 (tgt := 49) (by decide) ?_
        refine a_istore_n C dX12_execute_49 (by decide) (lst2 := [(2, .int 1), (1, .int (nI (i + 1))), (0, .ref (x_b G + 175))]) rfl ?_
        refine a_aload_n C dX12_execute_50 2 rfl ?_
        refine a_dup C dX12_execute_51 rfl ?_
        refine a_getI C (k := 175) iX12 x_k175 rfl (j := 13) rfl (by decide) (by decide +kernel) dX12_execute_52 ?_
        refine a_top (y := (nI (cp i))) hf13 ?_
        refine a_iload_n C dX12_execute_55 0 rfl ?_
        refine a_if_eq C dX12_execute_56 (tgt := 63) (by decide) (fun h => absurd h (by decide)) (fun _ => ?_)
        refine a_iconst C dX12_execute_59 (v := 1) (by decide) ?_
        refine a_goto C dX12_execute_60 (tgt := 64) (by decide) ?_
        refine a_iadd C dX12_execute_64 ?_
        refine a_top (y := (nI (cp i + 1))) (nI_1 _) ?_
        refine a_putI C (k := 175) iX12 tyX12_ok nmX12 x_k175 rfl (j := 13) rfl (by decide) (by decide +kernel) rfl (ty := .int) (by decide +kernel) rfl rfl dX12_execute_65 ?_
        refine a_toD (d2 := Ew (i + 1)) hE.symm ?_
        refine a_goto C dX12_execute_68 (tgt := 14) (by decide) ?_
        refine a_sub (lst2 := [(2, .int 1), (1, .int (nI (i + 1))), (0, .ref (x_b G + 175))]) [0, 1, 2] rfl ?_
        refine a_to (lst2 := [(2, .int 1), (1, .int (nI ((i + 1)))), (0, .ref (x_b G + 175))]) (st2 := []) (d2 := Ew ((i + 1))) rfl rfl rfl ?_
        exact ih (i + 1) (by omega) (by omega) 
      · skip
        have e9 : k9 = i := by omega
        subst e9
        obtain ⟨hf13, hfL, hf7, hf180⟩ := hF k9 (Nat.le_refl _)
        have hpc9 := hpc k9 (Nat.le_refl _)
        refine a_aload_n C dX12_execute_18 2 rfl ?_
        refine a_iconst C dX12_execute_19 (v := 3) (by decide) ?_
        refine a_iload_n C dX12_execute_20 1 rfl ?_
        refine a_imul C dX12_execute_21 ?_
        refine a_top (y := (nI (3 * k9))) (pk_mul 3 k9) ?_
        refine a_callV C (k := 175) (As := [.int (nI (3 * k9))]) (rest := []) (hpc9) (cwV 1 C.1.2.2.2.2 gX12_execute_X12_parsesCommand rfl rfl rfl (by decide +kernel) ⟨Nat.le_of_ble_eq_true rfl, Nat.le_of_ble_eq_true rfl⟩) x_k175 (q := (RX12, TX12, 16)) rfl rfl rfl rfl (Nat.le_of_ble_eq_true rfl) dX12_execute_22 ⟨Nat.le_of_ble_eq_true rfl, Nat.le_of_ble_eq_true rfl⟩ ?_
        refine a_iinc C dX12_execute_25 1 rfl (v := (nI (k9 + 1))) (x_inc k9) (by decide) (lst2 := [(1, .int (nI (k9 + 1))), (2, .int 1), (0, .ref (x_b G + 175))]) rfl ?_
        refine a_aload_n C dX12_execute_28 2 rfl ?_
        refine a_getI C (k := 175) iX12 x_k175 rfl (j := 14) rfl (by decide) (by decide +kernel) dX12_execute_29 ?_
        refine a_top (y := 1) hw9 ?_
        refine a_if_ne C dX12_execute_32 (tgt := 48) (by decide) (fun _ => ?_) (fun h => absurd h (by decide))
        refine a_iconst C dX12_execute_48 (v := 0) (by decide) ?_
        refine a_istore_n C dX12_execute_49 (by decide) (lst2 := [(2, .int 0), (1, .int (nI (k9 + 1))), (0, .ref (x_b G + 175))]) rfl ?_
        refine a_aload_n C dX12_execute_50 2 rfl ?_
        refine a_dup C dX12_execute_51 rfl ?_
        refine a_getI C (k := 175) iX12 x_k175 rfl (j := 13) rfl (by decide) (by decide +kernel) dX12_execute_52 ?_
        refine a_top (y := (nI (cp k9))) hf13 ?_
        refine a_iload_n C dX12_execute_55 0 rfl ?_
        refine a_if_eq C dX12_execute_56 (tgt := 63) (by decide) (fun _ => ?_) (fun h => absurd h (by decide))
        refine a_iconst C dX12_execute_63 (v := 0) (by decide) ?_
        refine a_iadd C dX12_execute_64 ?_
        refine a_top (y := (nI (cp k9))) (x_ad0 _) ?_
        refine a_putI C (k := 175) iX12 tyX12_ok nmX12 x_k175 rfl (j := 13) rfl (by decide) (by decide +kernel) rfl (ty := .int) (by decide +kernel) rfl rfl dX12_execute_65 ?_
        refine a_goto C dX12_execute_68 (tgt := 14) (by decide) ?_
        refine a_iload_n C dX12_execute_14 0 rfl ?_
        refine a_if_eq C dX12_execute_15 (tgt := 71) (by decide) (fun _ => ?_) (fun h => absurd rfl h)
        refine a_aload_n C dX12_execute_71 2 rfl ?_
        refine a_aload_n C dX12_execute_72 2 rfl ?_
        refine a_getI C (k := 175) iX12 x_k175 rfl (j := 14) rfl (by decide) (by decide +kernel) dX12_execute_73 ?_
        refine a_top (y := ((Fw k9) 175 14)) (by first | rw [x_p_row (by omega)] | rfl) ?_
        refine a_top (y := 1) hw9 ?_
        refine a_if_ne C dX12_execute_76 (tgt := 90) (by decide) (fun _ => ?_) (fun h => absurd h (by decide))
        refine a_iconst C dX12_execute_90 (v := 1) (by decide) ?_
        refine a_goto C dX12_execute_91 (tgt := 95) (by decide) ?_
        refine a_putI C (k := 175) iX12 tyX12_ok nmX12 x_k175 rfl (j := 14) rfl (by decide) (by decide +kernel) rfl (ty := .boolean) (by decide +kernel) rfl rfl dX12_execute_95 ?_
        refine a_aload_n C dX12_execute_98 2 rfl ?_
        refine a_iconst C dX12_execute_99 (v := 0) (by decide) ?_
        refine a_putI C (k := 175) iX12 tyX12_ok nmX12 x_k175 rfl (j := 7) rfl (by decide) (by decide +kernel) rfl (ty := .int) (by decide +kernel) rfl rfl dX12_execute_100 ?_
        refine a_aload_n C dX12_execute_103 2 rfl ?_
        refine a_getI C (k := 175) iX12 x_k175 rfl (j := 14) rfl (by decide) (by decide +kernel) dX12_execute_104 ?_
        refine a_top (y := 1) (by first | rw [x_p_row (by omega), x_p_at] | rfl) ?_
        refine a_top (y := 1) rfl ?_
        refine a_if_eq C dX12_execute_107 (tgt := 124) (by decide) (fun h => absurd h (by decide)) (fun _ => ?_)
        refine a_aload_n C dX12_execute_110 2 rfl ?_
        refine a_aload_n C dX12_execute_111 2 rfl ?_
        refine a_getI C (k := 175) iX12 x_k175 rfl (j := 13) rfl (by decide) (by decide +kernel) dX12_execute_112 ?_
        refine a_top (y := ((nI (cp k9)))) (by first | rw [x_p_row (by omega), x_p_row (by omega), x_p_at] | rfl) ?_
        refine a_top (y := (nI (cp k9))) rfl ?_
        refine a_putI C (k := 175) iX12 tyX12_ok nmX12 x_k175 rfl (j := 8) rfl (by decide) (by decide +kernel) rfl (ty := .int) (by decide +kernel) rfl rfl dX12_execute_115 ?_
        refine a_aload_n C dX12_execute_118 2 rfl ?_
        refine a_iconst C dX12_execute_119 (v := 1) (by decide) ?_
        refine a_callV C (k := 175) (As := [.int 1]) (rest := []) (c_M_fails l G (x_p (x_p (x_p (x_p (Fw k9) 175 13 (nI (cp k9))) 175 14 1) 175 7 0) 175 8 (nI (cp k9))) 1) (cwV 1 C.1.2.2.2.2 gX12_execute_X12_fails rfl rfl rfl (by decide +kernel) ⟨Nat.le_of_ble_eq_true rfl, Nat.le_of_ble_eq_true rfl⟩) x_k175 (q := (RX12, TX12, 16)) rfl rfl rfl rfl (Nat.le_of_ble_eq_true rfl) dX12_execute_120 ⟨Nat.le_of_ble_eq_true rfl, Nat.le_of_ble_eq_true rfl⟩ ?_
        exact a_iret C hlocks hr dX12_execute_123 rfl rfl
  refine a_sub (lst2 := [(2, .int 1), (1, .int 0), (0, .ref (x_b G + 175))]) [0, 1, 2] rfl ?_
  refine a_toD (d2 := Ew 0) hE0.symm ?_
  exact L14 (k9 + 1) 0 (by omega) (by omega)

set_option maxHeartbeats 1000000 in
set_option maxRecDepth 100000 in
theorem c_M_execute_b2 (l : Launch) (G : xG) (d : xd) (tx : Nat → Nat) (L : Nat) (hL : L ≤ 60) (ht7 : ∀ j, j < L → tx j < 128) (Ew Fw : Nat → xd) (cp : Nat → Nat) (k9 : Nat) (hk9 : k9 ≤ 15) (hE0 : Ew 0 = x_p (x_p d 175 13 0) 175 14 0) (hpc : ∀ i, i ≤ k9 → x_M G l yX12_parsesCommand wsX12_parsesCommand 5 0 0 [.ref (x_b G + 175), .int (nI (3 * i))] (Ew i) none (Fw i)) (hF : ∀ i, i ≤ k9 → Fw i 175 13 = nI (cp i) ∧ cp i ≤ L ∧ Fw i 175 7 = nI L ∧ (∀ j, j < L → Fw i 180 j = nI (tx j))) (hgo : ∀ i, i < k9 → Fw i 175 14 = 0 ∧ tp_c tx L (cp i) 59 = true ∧ Ew (i + 1) = x_p (Fw i) 175 13 (nI (cp i + 1))) (hw9 : Fw k9 175 14 = 0) (hno : ¬ tp_c tx L (cp k9) 59 = true) (hlt : cp k9 < L) : x_M G l yX12_execute wsX12_execute 7 0 0 [.ref (x_b G + 175)] d (some (.int 0)) (x_p (x_p (x_p (x_p (x_p (Fw k9) 175 13 (nI (cp k9))) 175 14 1) 175 7 0) 175 8 (nI (cp k9))) 175 12 1) := by
  have iX12 : ∀ w ∈ u_ws RX12 TX12 16, w ∈ wsX12_execute := by decide +kernel
  refine x_start (cc := cX12_execute) (maxL := 5) (ret := (some .int)) (own := RX12) (by decide) rfl rfl (Nat.le_of_ble_eq_true rfl) (lst := [(0, .ref (x_b G + 175))]) rfl ?_
  intro p e s m args below meth c C hr hlocks
  refine a_aload_n C dX12_execute_0 0 rfl ?_
  refine a_iconst C dX12_execute_1 (v := 0) (by decide) ?_
  refine a_putI C (k := 175) iX12 tyX12_ok nmX12 x_k175 rfl (j := 13) rfl (by decide) (by decide +kernel) rfl (ty := .int) (by decide +kernel) rfl rfl dX12_execute_2 ?_
  refine a_aload_n C dX12_execute_5 0 rfl ?_
  refine a_iconst C dX12_execute_6 (v := 0) (by decide) ?_
  refine a_putI C (k := 175) iX12 tyX12_ok nmX12 x_k175 rfl (j := 14) rfl (by decide) (by decide +kernel) rfl (ty := .boolean) (by decide +kernel) rfl rfl dX12_execute_7 ?_
  refine a_iconst C dX12_execute_10 (v := 0) (by decide) ?_
  refine a_istore_n C dX12_execute_11 (by decide) (lst2 := [(1, .int 0), (0, .ref (x_b G + 175))]) rfl ?_
  refine a_iconst C dX12_execute_12 (v := 1) (by decide) ?_
  refine a_istore_n C dX12_execute_13 (by decide) (lst2 := [(2, .int 1), (1, .int 0), (0, .ref (x_b G + 175))]) rfl ?_
  have L14 : ∀ (j i : Nat), i ≤ k9 → k9 < i + j → Ab G p l e (x_rm 7 0 0) s m args below meth c 5 0 0 (MQ below (x_Q G (some (.int 0)) (x_p (x_p (x_p (x_p (x_p (Fw k9) 175 13 (nI (cp k9))) 175 14 1) 175 7 0) 175 8 (nI (cp k9))) 175 12 1)) args s 0 0 (x_A G)) 14 [(2, .int 1), (1, .int (nI i)), (0, .ref (x_b G + 175))] [] (Ew i) := by
    intro j
    induction j with
    | zero => intro i h1 h2; exact absurd h2 (by omega)
    | succ j ih =>
      intro i hi hj 
      refine a_iload_n C dX12_execute_14 0 rfl ?_
      refine a_if_eq C dX12_execute_15 (tgt := 71) (by decide) (fun h => absurd h (by decide)) (fun _ => ?_)
      rcases Nat.lt_or_ge i k9 with hik | hik
      · skip
        obtain ⟨hf13, hfL, hf7, hf180⟩ := hF i (by omega)
        obtain ⟨hg14, h59, hE⟩ := hgo i hik
        have hpc9 := hpc i (by omega)
        refine a_aload_n C dX12_execute_18 2 rfl ?_
        refine a_iconst C dX12_execute_19 (v := 3) (by decide) ?_
        refine a_iload_n C dX12_execute_20 1 rfl ?_
        refine a_imul C dX12_execute_21 ?_
        refine a_top (y := (nI (3 * i))) (pk_mul 3 i) ?_
        refine a_callV C (k := 175) (As := [.int (nI (3 * i))]) (rest := []) (hpc9) (cwV 1 C.1.2.2.2.2 gX12_execute_X12_parsesCommand rfl rfl rfl (by decide +kernel) ⟨Nat.le_of_ble_eq_true rfl, Nat.le_of_ble_eq_true rfl⟩) x_k175 (q := (RX12, TX12, 16)) rfl rfl rfl rfl (Nat.le_of_ble_eq_true rfl) dX12_execute_22 ⟨Nat.le_of_ble_eq_true rfl, Nat.le_of_ble_eq_true rfl⟩ ?_
        refine a_iinc C dX12_execute_25 1 rfl (v := (nI (i + 1))) (x_inc i) (by decide) (lst2 := [(1, .int (nI (i + 1))), (2, .int 1), (0, .ref (x_b G + 175))]) rfl ?_
        refine a_aload_n C dX12_execute_28 2 rfl ?_
        refine a_getI C (k := 175) iX12 x_k175 rfl (j := 14) rfl (by decide) (by decide +kernel) dX12_execute_29 ?_
        refine a_top (y := 0) hg14 ?_
        refine a_if_ne C dX12_execute_32 (tgt := 48) (by decide) (fun h => absurd h (by decide)) (fun _ => ?_)
        refine a_aload_n C dX12_execute_35 2 rfl ?_
        refine a_callV C (k := 175) (As := []) (rest := []) (c_M_here l G (Fw i) tx L hL hf7 hf180 ht7 (cp i) hf13 (by omega)) (cwV 0 C.1.2.2.2.2 gX12_execute_X12_here rfl rfl rfl (by decide +kernel) ⟨Nat.le_of_ble_eq_true rfl, Nat.le_of_ble_eq_true rfl⟩) x_k175 (q := (RX12, TX12, 16)) rfl rfl rfl rfl (Nat.le_of_ble_eq_true rfl) dX12_execute_36 ⟨Nat.le_of_ble_eq_true rfl, Nat.le_of_ble_eq_true rfl⟩ ?_
        refine a_bipush C dX12_execute_39 (v := 59) (by decide) ?_
        refine a_icmp_ne C dX12_execute_41 (tgt := 48) (by decide) (fun h => False.elim (h ((tp_h_c (a := 59) ht7 (by omega)).mpr h59))) (fun h41 => ?_)
        refine a_iconst C dX12_execute_44 (v := 1) (by decide) ?_
        refine a_goto C dX12_execute_45 (tgt := 49) (by decide) ?_
        refine a_istore_n C dX12_execute_49 (by decide) (lst2 := [(2, .int 1), (1, .int (nI (i + 1))), (0, .ref (x_b G + 175))]) rfl ?_
        refine a_aload_n C dX12_execute_50 2 rfl ?_
        refine a_dup C dX12_execute_51 rfl ?_
        refine a_getI C (k := 175) iX12 x_k175 rfl (j := 13) rfl (by decide) (by decide +kernel) dX12_execute_52 ?_
        refine a_top (y := (nI (cp i))) hf13 ?_
        refine a_iload_n C dX12_execute_55 0 rfl ?_
        refine a_if_eq C dX12_execute_56 (tgt := 63) (by decide) (fun h => absurd h (by decide)) (fun _ => ?_)
        refine a_iconst C dX12_execute_59 (v := 1) (by decide) ?_
        refine a_goto C dX12_execute_60 (tgt := 64) (by decide) ?_
        refine a_iadd C dX12_execute_64 ?_
        refine a_top (y := (nI (cp i + 1))) (nI_1 _) ?_
        refine a_putI C (k := 175) iX12 tyX12_ok nmX12 x_k175 rfl (j := 13) rfl (by decide) (by decide +kernel) rfl (ty := .int) (by decide +kernel) rfl rfl dX12_execute_65 ?_
        refine a_toD (d2 := Ew (i + 1)) hE.symm ?_
        refine a_goto C dX12_execute_68 (tgt := 14) (by decide) ?_
        refine a_sub (lst2 := [(2, .int 1), (1, .int (nI (i + 1))), (0, .ref (x_b G + 175))]) [0, 1, 2] rfl ?_
        refine a_to (lst2 := [(2, .int 1), (1, .int (nI ((i + 1)))), (0, .ref (x_b G + 175))]) (st2 := []) (d2 := Ew ((i + 1))) rfl rfl rfl ?_
        exact ih (i + 1) (by omega) (by omega) 
      · skip
        have e9 : k9 = i := by omega
        subst e9
        obtain ⟨hf13, hfL, hf7, hf180⟩ := hF k9 (Nat.le_refl _)
        have hpc9 := hpc k9 (Nat.le_refl _)
        refine a_aload_n C dX12_execute_18 2 rfl ?_
        refine a_iconst C dX12_execute_19 (v := 3) (by decide) ?_
        refine a_iload_n C dX12_execute_20 1 rfl ?_
        refine a_imul C dX12_execute_21 ?_
        refine a_top (y := (nI (3 * k9))) (pk_mul 3 k9) ?_
        refine a_callV C (k := 175) (As := [.int (nI (3 * k9))]) (rest := []) (hpc9) (cwV 1 C.1.2.2.2.2 gX12_execute_X12_parsesCommand rfl rfl rfl (by decide +kernel) ⟨Nat.le_of_ble_eq_true rfl, Nat.le_of_ble_eq_true rfl⟩) x_k175 (q := (RX12, TX12, 16)) rfl rfl rfl rfl (Nat.le_of_ble_eq_true rfl) dX12_execute_22 ⟨Nat.le_of_ble_eq_true rfl, Nat.le_of_ble_eq_true rfl⟩ ?_
        refine a_iinc C dX12_execute_25 1 rfl (v := (nI (k9 + 1))) (x_inc k9) (by decide) (lst2 := [(1, .int (nI (k9 + 1))), (2, .int 1), (0, .ref (x_b G + 175))]) rfl ?_
        refine a_aload_n C dX12_execute_28 2 rfl ?_
        refine a_getI C (k := 175) iX12 x_k175 rfl (j := 14) rfl (by decide) (by decide +kernel) dX12_execute_29 ?_
        refine a_top (y := 0) hw9 ?_
        refine a_if_ne C dX12_execute_32 (tgt := 48) (by decide) (fun h => absurd h (by decide)) (fun _ => ?_)
        refine a_aload_n C dX12_execute_35 2 rfl ?_
        refine a_callV C (k := 175) (As := []) (rest := []) (c_M_here l G (Fw k9) tx L hL hf7 hf180 ht7 (cp k9) hf13 (by omega)) (cwV 0 C.1.2.2.2.2 gX12_execute_X12_here rfl rfl rfl (by decide +kernel) ⟨Nat.le_of_ble_eq_true rfl, Nat.le_of_ble_eq_true rfl⟩) x_k175 (q := (RX12, TX12, 16)) rfl rfl rfl rfl (Nat.le_of_ble_eq_true rfl) dX12_execute_36 ⟨Nat.le_of_ble_eq_true rfl, Nat.le_of_ble_eq_true rfl⟩ ?_
        refine a_bipush C dX12_execute_39 (v := 59) (by decide) ?_
        refine a_icmp_ne C dX12_execute_41 (tgt := 48) (by decide) (fun h41 => ?_) (fun h => False.elim (hno ((tp_h_c (a := 59) ht7 (by omega)).mp h)))
        refine a_iconst C dX12_execute_48 (v := 0) (by decide) ?_
        refine a_istore_n C dX12_execute_49 (by decide) (lst2 := [(2, .int 0), (1, .int (nI (k9 + 1))), (0, .ref (x_b G + 175))]) rfl ?_
        refine a_aload_n C dX12_execute_50 2 rfl ?_
        refine a_dup C dX12_execute_51 rfl ?_
        refine a_getI C (k := 175) iX12 x_k175 rfl (j := 13) rfl (by decide) (by decide +kernel) dX12_execute_52 ?_
        refine a_top (y := (nI (cp k9))) hf13 ?_
        refine a_iload_n C dX12_execute_55 0 rfl ?_
        refine a_if_eq C dX12_execute_56 (tgt := 63) (by decide) (fun _ => ?_) (fun h => absurd h (by decide))
        refine a_iconst C dX12_execute_63 (v := 0) (by decide) ?_
        refine a_iadd C dX12_execute_64 ?_
        refine a_top (y := (nI (cp k9))) (x_ad0 _) ?_
        refine a_putI C (k := 175) iX12 tyX12_ok nmX12 x_k175 rfl (j := 13) rfl (by decide) (by decide +kernel) rfl (ty := .int) (by decide +kernel) rfl rfl dX12_execute_65 ?_
        refine a_goto C dX12_execute_68 (tgt := 14) (by decide) ?_
        refine a_iload_n C dX12_execute_14 0 rfl ?_
        refine a_if_eq C dX12_execute_15 (tgt := 71) (by decide) (fun _ => ?_) (fun h => absurd rfl h)
        refine a_aload_n C dX12_execute_71 2 rfl ?_
        refine a_aload_n C dX12_execute_72 2 rfl ?_
        refine a_getI C (k := 175) iX12 x_k175 rfl (j := 14) rfl (by decide) (by decide +kernel) dX12_execute_73 ?_
        refine a_top (y := ((Fw k9) 175 14)) (by first | rw [x_p_row (by omega)] | rfl) ?_
        refine a_top (y := 0) hw9 ?_
        refine a_if_ne C dX12_execute_76 (tgt := 90) (by decide) (fun h => absurd h (by decide)) (fun _ => ?_)
        refine a_aload_n C dX12_execute_79 2 rfl ?_
        refine a_getI C (k := 175) iX12 x_k175 rfl (j := 13) rfl (by decide) (by decide +kernel) dX12_execute_80 ?_
        refine a_top (y := ((nI (cp k9)))) (by first | rw [x_p_at] | rfl) ?_
        refine a_top (y := (nI (cp k9))) rfl ?_
        refine a_aload_n C dX12_execute_83 2 rfl ?_
        refine a_getI C (k := 175) iX12 x_k175 rfl (j := 7) rfl (by decide) (by decide +kernel) dX12_execute_84 ?_
        refine a_top (y := ((Fw k9) 175 7)) (by first | rw [x_p_row (by omega)] | rfl) ?_
        refine a_top (y := (nI L)) hf7 ?_
        refine a_icmp_ge C dX12_execute_87 (tgt := 94) (by decide) (fun h => absurd h (nI_ge hlt (by omega))) (fun h87 => ?_)
        refine a_iconst C dX12_execute_90 (v := 1) (by decide) ?_
        refine a_goto C dX12_execute_91 (tgt := 95) (by decide) ?_
        refine a_putI C (k := 175) iX12 tyX12_ok nmX12 x_k175 rfl (j := 14) rfl (by decide) (by decide +kernel) rfl (ty := .boolean) (by decide +kernel) rfl rfl dX12_execute_95 ?_
        refine a_aload_n C dX12_execute_98 2 rfl ?_
        refine a_iconst C dX12_execute_99 (v := 0) (by decide) ?_
        refine a_putI C (k := 175) iX12 tyX12_ok nmX12 x_k175 rfl (j := 7) rfl (by decide) (by decide +kernel) rfl (ty := .int) (by decide +kernel) rfl rfl dX12_execute_100 ?_
        refine a_aload_n C dX12_execute_103 2 rfl ?_
        refine a_getI C (k := 175) iX12 x_k175 rfl (j := 14) rfl (by decide) (by decide +kernel) dX12_execute_104 ?_
        refine a_top (y := 1) (by first | rw [x_p_row (by omega), x_p_at] | rfl) ?_
        refine a_top (y := 1) rfl ?_
        refine a_if_eq C dX12_execute_107 (tgt := 124) (by decide) (fun h => absurd h (by decide)) (fun _ => ?_)
        refine a_aload_n C dX12_execute_110 2 rfl ?_
        refine a_aload_n C dX12_execute_111 2 rfl ?_
        refine a_getI C (k := 175) iX12 x_k175 rfl (j := 13) rfl (by decide) (by decide +kernel) dX12_execute_112 ?_
        refine a_top (y := ((nI (cp k9)))) (by first | rw [x_p_row (by omega), x_p_row (by omega), x_p_at] | rfl) ?_
        refine a_top (y := (nI (cp k9))) rfl ?_
        refine a_putI C (k := 175) iX12 tyX12_ok nmX12 x_k175 rfl (j := 8) rfl (by decide) (by decide +kernel) rfl (ty := .int) (by decide +kernel) rfl rfl dX12_execute_115 ?_
        refine a_aload_n C dX12_execute_118 2 rfl ?_
        refine a_iconst C dX12_execute_119 (v := 1) (by decide) ?_
        refine a_callV C (k := 175) (As := [.int 1]) (rest := []) (c_M_fails l G (x_p (x_p (x_p (x_p (Fw k9) 175 13 (nI (cp k9))) 175 14 1) 175 7 0) 175 8 (nI (cp k9))) 1) (cwV 1 C.1.2.2.2.2 gX12_execute_X12_fails rfl rfl rfl (by decide +kernel) ⟨Nat.le_of_ble_eq_true rfl, Nat.le_of_ble_eq_true rfl⟩) x_k175 (q := (RX12, TX12, 16)) rfl rfl rfl rfl (Nat.le_of_ble_eq_true rfl) dX12_execute_120 ⟨Nat.le_of_ble_eq_true rfl, Nat.le_of_ble_eq_true rfl⟩ ?_
        exact a_iret C hlocks hr dX12_execute_123 rfl rfl
  refine a_sub (lst2 := [(2, .int 1), (1, .int 0), (0, .ref (x_b G + 175))]) [0, 1, 2] rfl ?_
  refine a_toD (d2 := Ew 0) hE0.symm ?_
  exact L14 (k9 + 1) 0 (by omega) (by omega)

set_option maxHeartbeats 1000000 in
set_option maxRecDepth 100000 in
theorem c_M_execute (l : Launch) (G : xG) (d : xd) (tx : Nat → Nat) (L : Nat) (hL : L ≤ 60) (ht7 : ∀ j, j < L → tx j < 128) (Ew Fw : Nat → xd) (cp : Nat → Nat) (k9 : Nat) (hk9 : k9 ≤ 15) (hE0 : Ew 0 = x_p (x_p d 175 13 0) 175 14 0) (hpc : ∀ i, i ≤ k9 → x_M G l yX12_parsesCommand wsX12_parsesCommand 5 0 0 [.ref (x_b G + 175), .int (nI (3 * i))] (Ew i) none (Fw i)) (hF : ∀ i, i ≤ k9 → Fw i 175 13 = nI (cp i) ∧ cp i ≤ L ∧ Fw i 175 7 = nI L ∧ (∀ j, j < L → Fw i 180 j = nI (tx j))) (hgo : ∀ i, i < k9 → Fw i 175 14 = 0 ∧ tp_c tx L (cp i) 59 = true ∧ Ew (i + 1) = x_p (Fw i) 175 13 (nI (cp i + 1))) (hw9 : Fw k9 175 14 = 0) (hno : ¬ tp_c tx L (cp k9) 59 = true) (hend : L ≤ cp k9) (Gw : Nat → xd) (hG0 : Gw 0 = g_bg (x_p (x_p (x_p (Fw k9) 175 13 (nI (cp k9))) 175 14 0) 175 7 0)) (rv : Nat → Int32) (hco : ∀ w, w < k9 + 1 → x_M G l yX12_carriesOut wsX12_carriesOut 6 0 0 [.ref (x_b G + 175), .int (nI (3 * w))] (Gw w) (some (.int (rv w))) (Gw (w + 1)) ∧ Gw (w + 1) 175 12 = 0) (q9 : Nat) (hq9 : Gw (k9 + 1) 175 3 = nI q9) (hq8 : q9 ≤ 8) : x_M G l yX12_execute wsX12_execute 7 0 0 [.ref (x_b G + 175)] d (some (.int (nI (k9 + 1)))) (g_kp (x_p (Gw (k9 + 1)) 175 12 0) q9) := by
  have iX12 : ∀ w ∈ u_ws RX12 TX12 16, w ∈ wsX12_execute := by decide +kernel
  refine x_start (cc := cX12_execute) (maxL := 5) (ret := (some .int)) (own := RX12) (by decide) rfl rfl (Nat.le_of_ble_eq_true rfl) (lst := [(0, .ref (x_b G + 175))]) rfl ?_
  intro p e s m args below meth c C hr hlocks
  refine a_aload_n C dX12_execute_0 0 rfl ?_
  refine a_iconst C dX12_execute_1 (v := 0) (by decide) ?_
  refine a_putI C (k := 175) iX12 tyX12_ok nmX12 x_k175 rfl (j := 13) rfl (by decide) (by decide +kernel) rfl (ty := .int) (by decide +kernel) rfl rfl dX12_execute_2 ?_
  refine a_aload_n C dX12_execute_5 0 rfl ?_
  refine a_iconst C dX12_execute_6 (v := 0) (by decide) ?_
  refine a_putI C (k := 175) iX12 tyX12_ok nmX12 x_k175 rfl (j := 14) rfl (by decide) (by decide +kernel) rfl (ty := .boolean) (by decide +kernel) rfl rfl dX12_execute_7 ?_
  refine a_iconst C dX12_execute_10 (v := 0) (by decide) ?_
  refine a_istore_n C dX12_execute_11 (by decide) (lst2 := [(1, .int 0), (0, .ref (x_b G + 175))]) rfl ?_
  refine a_iconst C dX12_execute_12 (v := 1) (by decide) ?_
  refine a_istore_n C dX12_execute_13 (by decide) (lst2 := [(2, .int 1), (1, .int 0), (0, .ref (x_b G + 175))]) rfl ?_
  have L14 : ∀ (j i : Nat), i ≤ k9 → k9 < i + j → Ab G p l e (x_rm 7 0 0) s m args below meth c 5 0 0 (MQ below (x_Q G (some (.int (nI (k9 + 1)))) (g_kp (x_p (Gw (k9 + 1)) 175 12 0) q9)) args s 0 0 (x_A G)) 14 [(2, .int 1), (1, .int (nI i)), (0, .ref (x_b G + 175))] [] (Ew i) := by
    intro j
    induction j with
    | zero => intro i h1 h2; exact absurd h2 (by omega)
    | succ j ih =>
      intro i hi hj 
      refine a_iload_n C dX12_execute_14 0 rfl ?_
      refine a_if_eq C dX12_execute_15 (tgt := 71) (by decide) (fun h => absurd h (by decide)) (fun _ => ?_)
      rcases Nat.lt_or_ge i k9 with hik | hik
      · skip
        obtain ⟨hf13, hfL, hf7, hf180⟩ := hF i (by omega)
        obtain ⟨hg14, h59, hE⟩ := hgo i hik
        have hpc9 := hpc i (by omega)
        refine a_aload_n C dX12_execute_18 2 rfl ?_
        refine a_iconst C dX12_execute_19 (v := 3) (by decide) ?_
        refine a_iload_n C dX12_execute_20 1 rfl ?_
        refine a_imul C dX12_execute_21 ?_
        refine a_top (y := (nI (3 * i))) (pk_mul 3 i) ?_
        refine a_callV C (k := 175) (As := [.int (nI (3 * i))]) (rest := []) (hpc9) (cwV 1 C.1.2.2.2.2 gX12_execute_X12_parsesCommand rfl rfl rfl (by decide +kernel) ⟨Nat.le_of_ble_eq_true rfl, Nat.le_of_ble_eq_true rfl⟩) x_k175 (q := (RX12, TX12, 16)) rfl rfl rfl rfl (Nat.le_of_ble_eq_true rfl) dX12_execute_22 ⟨Nat.le_of_ble_eq_true rfl, Nat.le_of_ble_eq_true rfl⟩ ?_
        refine a_iinc C dX12_execute_25 1 rfl (v := (nI (i + 1))) (x_inc i) (by decide) (lst2 := [(1, .int (nI (i + 1))), (2, .int 1), (0, .ref (x_b G + 175))]) rfl ?_
        refine a_aload_n C dX12_execute_28 2 rfl ?_
        refine a_getI C (k := 175) iX12 x_k175 rfl (j := 14) rfl (by decide) (by decide +kernel) dX12_execute_29 ?_
        refine a_top (y := 0) hg14 ?_
        refine a_if_ne C dX12_execute_32 (tgt := 48) (by decide) (fun h => absurd h (by decide)) (fun _ => ?_)
        refine a_aload_n C dX12_execute_35 2 rfl ?_
        refine a_callV C (k := 175) (As := []) (rest := []) (c_M_here l G (Fw i) tx L hL hf7 hf180 ht7 (cp i) hf13 (by omega)) (cwV 0 C.1.2.2.2.2 gX12_execute_X12_here rfl rfl rfl (by decide +kernel) ⟨Nat.le_of_ble_eq_true rfl, Nat.le_of_ble_eq_true rfl⟩) x_k175 (q := (RX12, TX12, 16)) rfl rfl rfl rfl (Nat.le_of_ble_eq_true rfl) dX12_execute_36 ⟨Nat.le_of_ble_eq_true rfl, Nat.le_of_ble_eq_true rfl⟩ ?_
        refine a_bipush C dX12_execute_39 (v := 59) (by decide) ?_
        refine a_icmp_ne C dX12_execute_41 (tgt := 48) (by decide) (fun h => False.elim (h ((tp_h_c (a := 59) ht7 (by omega)).mpr h59))) (fun h41 => ?_)
        refine a_iconst C dX12_execute_44 (v := 1) (by decide) ?_
        refine a_goto C dX12_execute_45 (tgt := 49) (by decide) ?_
        refine a_istore_n C dX12_execute_49 (by decide) (lst2 := [(2, .int 1), (1, .int (nI (i + 1))), (0, .ref (x_b G + 175))]) rfl ?_
        refine a_aload_n C dX12_execute_50 2 rfl ?_
        refine a_dup C dX12_execute_51 rfl ?_
        refine a_getI C (k := 175) iX12 x_k175 rfl (j := 13) rfl (by decide) (by decide +kernel) dX12_execute_52 ?_
        refine a_top (y := (nI (cp i))) hf13 ?_
        refine a_iload_n C dX12_execute_55 0 rfl ?_
        refine a_if_eq C dX12_execute_56 (tgt := 63) (by decide) (fun h => absurd h (by decide)) (fun _ => ?_)
        refine a_iconst C dX12_execute_59 (v := 1) (by decide) ?_
        refine a_goto C dX12_execute_60 (tgt := 64) (by decide) ?_
        refine a_iadd C dX12_execute_64 ?_
        refine a_top (y := (nI (cp i + 1))) (nI_1 _) ?_
        refine a_putI C (k := 175) iX12 tyX12_ok nmX12 x_k175 rfl (j := 13) rfl (by decide) (by decide +kernel) rfl (ty := .int) (by decide +kernel) rfl rfl dX12_execute_65 ?_
        refine a_toD (d2 := Ew (i + 1)) hE.symm ?_
        refine a_goto C dX12_execute_68 (tgt := 14) (by decide) ?_
        refine a_sub (lst2 := [(2, .int 1), (1, .int (nI (i + 1))), (0, .ref (x_b G + 175))]) [0, 1, 2] rfl ?_
        refine a_to (lst2 := [(2, .int 1), (1, .int (nI ((i + 1)))), (0, .ref (x_b G + 175))]) (st2 := []) (d2 := Ew ((i + 1))) rfl rfl rfl ?_
        exact ih (i + 1) (by omega) (by omega) 
      · skip
        have e9 : k9 = i := by omega
        subst e9
        obtain ⟨hf13, hfL, hf7, hf180⟩ := hF k9 (Nat.le_refl _)
        have hpc9 := hpc k9 (Nat.le_refl _)
        refine a_aload_n C dX12_execute_18 2 rfl ?_
        refine a_iconst C dX12_execute_19 (v := 3) (by decide) ?_
        refine a_iload_n C dX12_execute_20 1 rfl ?_
        refine a_imul C dX12_execute_21 ?_
        refine a_top (y := (nI (3 * k9))) (pk_mul 3 k9) ?_
        refine a_callV C (k := 175) (As := [.int (nI (3 * k9))]) (rest := []) (hpc9) (cwV 1 C.1.2.2.2.2 gX12_execute_X12_parsesCommand rfl rfl rfl (by decide +kernel) ⟨Nat.le_of_ble_eq_true rfl, Nat.le_of_ble_eq_true rfl⟩) x_k175 (q := (RX12, TX12, 16)) rfl rfl rfl rfl (Nat.le_of_ble_eq_true rfl) dX12_execute_22 ⟨Nat.le_of_ble_eq_true rfl, Nat.le_of_ble_eq_true rfl⟩ ?_
        refine a_iinc C dX12_execute_25 1 rfl (v := (nI (k9 + 1))) (x_inc k9) (by decide) (lst2 := [(1, .int (nI (k9 + 1))), (2, .int 1), (0, .ref (x_b G + 175))]) rfl ?_
        refine a_aload_n C dX12_execute_28 2 rfl ?_
        refine a_getI C (k := 175) iX12 x_k175 rfl (j := 14) rfl (by decide) (by decide +kernel) dX12_execute_29 ?_
        refine a_top (y := 0) hw9 ?_
        refine a_if_ne C dX12_execute_32 (tgt := 48) (by decide) (fun h => absurd h (by decide)) (fun _ => ?_)
        refine a_aload_n C dX12_execute_35 2 rfl ?_
        refine a_callV C (k := 175) (As := []) (rest := []) (c_M_here l G (Fw k9) tx L hL hf7 hf180 ht7 (cp k9) hf13 (by omega)) (cwV 0 C.1.2.2.2.2 gX12_execute_X12_here rfl rfl rfl (by decide +kernel) ⟨Nat.le_of_ble_eq_true rfl, Nat.le_of_ble_eq_true rfl⟩) x_k175 (q := (RX12, TX12, 16)) rfl rfl rfl rfl (Nat.le_of_ble_eq_true rfl) dX12_execute_36 ⟨Nat.le_of_ble_eq_true rfl, Nat.le_of_ble_eq_true rfl⟩ ?_
        refine a_bipush C dX12_execute_39 (v := 59) (by decide) ?_
        refine a_icmp_ne C dX12_execute_41 (tgt := 48) (by decide) (fun h41 => ?_) (fun h => False.elim (hno ((tp_h_c (a := 59) ht7 (by omega)).mp h)))
        refine a_iconst C dX12_execute_48 (v := 0) (by decide) ?_
        refine a_istore_n C dX12_execute_49 (by decide) (lst2 := [(2, .int 0), (1, .int (nI (k9 + 1))), (0, .ref (x_b G + 175))]) rfl ?_
        refine a_aload_n C dX12_execute_50 2 rfl ?_
        refine a_dup C dX12_execute_51 rfl ?_
        refine a_getI C (k := 175) iX12 x_k175 rfl (j := 13) rfl (by decide) (by decide +kernel) dX12_execute_52 ?_
        refine a_top (y := (nI (cp k9))) hf13 ?_
        refine a_iload_n C dX12_execute_55 0 rfl ?_
        refine a_if_eq C dX12_execute_56 (tgt := 63) (by decide) (fun _ => ?_) (fun h => absurd h (by decide))
        refine a_iconst C dX12_execute_63 (v := 0) (by decide) ?_
        refine a_iadd C dX12_execute_64 ?_
        refine a_top (y := (nI (cp k9))) (x_ad0 _) ?_
        refine a_putI C (k := 175) iX12 tyX12_ok nmX12 x_k175 rfl (j := 13) rfl (by decide) (by decide +kernel) rfl (ty := .int) (by decide +kernel) rfl rfl dX12_execute_65 ?_
        refine a_goto C dX12_execute_68 (tgt := 14) (by decide) ?_
        refine a_iload_n C dX12_execute_14 0 rfl ?_
        refine a_if_eq C dX12_execute_15 (tgt := 71) (by decide) (fun _ => ?_) (fun h => absurd rfl h)
        refine a_aload_n C dX12_execute_71 2 rfl ?_
        refine a_aload_n C dX12_execute_72 2 rfl ?_
        refine a_getI C (k := 175) iX12 x_k175 rfl (j := 14) rfl (by decide) (by decide +kernel) dX12_execute_73 ?_
        refine a_top (y := ((Fw k9) 175 14)) (by first | rw [x_p_row (by omega)] | rfl) ?_
        refine a_top (y := 0) hw9 ?_
        refine a_if_ne C dX12_execute_76 (tgt := 90) (by decide) (fun h => absurd h (by decide)) (fun _ => ?_)
        refine a_aload_n C dX12_execute_79 2 rfl ?_
        refine a_getI C (k := 175) iX12 x_k175 rfl (j := 13) rfl (by decide) (by decide +kernel) dX12_execute_80 ?_
        refine a_top (y := ((nI (cp k9)))) (by first | rw [x_p_at] | rfl) ?_
        refine a_top (y := (nI (cp k9))) rfl ?_
        refine a_aload_n C dX12_execute_83 2 rfl ?_
        refine a_getI C (k := 175) iX12 x_k175 rfl (j := 7) rfl (by decide) (by decide +kernel) dX12_execute_84 ?_
        refine a_top (y := ((Fw k9) 175 7)) (by first | rw [x_p_row (by omega)] | rfl) ?_
        refine a_top (y := (nI L)) hf7 ?_
        refine a_icmp_ge C dX12_execute_87 (tgt := 94) (by decide) (fun h87 => ?_) (fun h => False.elim (h (nI_le hend (by omega))))
        refine a_iconst C dX12_execute_94 (v := 0) (by decide) ?_
        refine a_putI C (k := 175) iX12 tyX12_ok nmX12 x_k175 rfl (j := 14) rfl (by decide) (by decide +kernel) rfl (ty := .boolean) (by decide +kernel) rfl rfl dX12_execute_95 ?_
        refine a_aload_n C dX12_execute_98 2 rfl ?_
        refine a_iconst C dX12_execute_99 (v := 0) (by decide) ?_
        refine a_putI C (k := 175) iX12 tyX12_ok nmX12 x_k175 rfl (j := 7) rfl (by decide) (by decide +kernel) rfl (ty := .int) (by decide +kernel) rfl rfl dX12_execute_100 ?_
        refine a_aload_n C dX12_execute_103 2 rfl ?_
        refine a_getI C (k := 175) iX12 x_k175 rfl (j := 14) rfl (by decide) (by decide +kernel) dX12_execute_104 ?_
        refine a_top (y := 0) (by first | rw [x_p_row (by omega), x_p_at] | rfl) ?_
        refine a_top (y := 0) rfl ?_
        refine a_if_eq C dX12_execute_107 (tgt := 124) (by decide) (fun _ => ?_) (fun h => absurd h (by decide))
        refine a_aload_n C dX12_execute_124 2 rfl ?_
        refine a_callV C (k := 175) (As := []) (rest := []) (c_M_begin l G (x_p (x_p (x_p (Fw k9) 175 13 (nI (cp k9))) 175 14 0) 175 7 0)) (cwV 0 C.1.2.2.2.2 gX12_execute_X12_begin rfl rfl rfl (by decide +kernel) ⟨Nat.le_of_ble_eq_true rfl, Nat.le_of_ble_eq_true rfl⟩) x_k175 (q := (RX12, TX12, 16)) rfl rfl rfl rfl (Nat.le_of_ble_eq_true rfl) dX12_execute_125 ⟨Nat.le_of_ble_eq_true rfl, Nat.le_of_ble_eq_true rfl⟩ ?_
        refine a_toD (d2 := Gw 0) hG0.symm ?_
        refine a_iconst C dX12_execute_128 (v := 0) (by decide) ?_
        refine a_istore_n C dX12_execute_129 (by decide) (lst2 := [(3, .int 0), (2, .int 0), (1, .int (nI (k9 + 1))), (0, .ref (x_b G + 175))]) rfl ?_
        have L130 : ∀ (j w : Nat), w ≤ (k9 + 1) → (k9 + 1) < w + j → Ab G p l e (x_rm 7 0 0) s m args below meth c 5 0 0 (MQ below (x_Q G (some (.int (nI (k9 + 1)))) (g_kp (x_p (Gw (k9 + 1)) 175 12 0) q9)) args s 0 0 (x_A G)) 130 [(3, .int (nI w)), (2, .int 0), (1, .int (nI (k9 + 1))), (0, .ref (x_b G + 175))] [] (Gw w) := by
          intro j
          induction j with
          | zero => intro w h1 h2; exact absurd h2 (by omega)
          | succ j ihw =>
            intro w hiw hj 
            refine a_iload_n C dX12_execute_130 0 rfl ?_
            refine a_iload_n C dX12_execute_131 2 rfl ?_
            refine a_icmp_ge C dX12_execute_132 (tgt := 174) (by decide) (fun h132 => ?_) (fun h132 => ?_)
            · skip
              have e := x_ge h132 hiw (by omega)
              have e9 := e.symm
              subst e9
              clear e
              refine a_aload_n C dX12_execute_174 3 rfl ?_
              refine a_aload_n C dX12_execute_175 3 rfl ?_
              refine a_iload_n C dX12_execute_176 2 rfl ?_
              refine a_callV C (k := 175) (As := [.int (nI (k9 + 1))]) (rest := [.ref (x_b G + 175)]) (c_M_done l G (Gw (k9 + 1)) (nI (k9 + 1))) (cwV 1 C.1.2.2.2.2 gX12_execute_X12_done rfl rfl rfl (by decide +kernel) ⟨Nat.le_of_ble_eq_true rfl, Nat.le_of_ble_eq_true rfl⟩) x_k175 (q := (RX12, TX12, 16)) rfl rfl rfl rfl (Nat.le_of_ble_eq_true rfl) dX12_execute_177 ⟨Nat.le_of_ble_eq_true rfl, Nat.le_of_ble_eq_true rfl⟩ ?_
              refine a_callV C (k := 175) (As := [.int (nI (k9 + 1))]) (rest := []) (c_M_kept l G (x_p (Gw (k9 + 1)) 175 12 0) (nI (k9 + 1)) q9 (by rw [x_p_at]) (by rw [x_p_row (by omega)]; exact hq9) hq8) (cwV 1 C.1.2.2.2.2 gX12_execute_X12_kept rfl rfl rfl (by decide +kernel) ⟨Nat.le_of_ble_eq_true rfl, Nat.le_of_ble_eq_true rfl⟩) x_k175 (q := (RX12, TX12, 16)) rfl rfl rfl rfl (Nat.le_of_ble_eq_true rfl) dX12_execute_180 ⟨Nat.le_of_ble_eq_true rfl, Nat.le_of_ble_eq_true rfl⟩ ?_
              exact a_iret C hlocks hr dX12_execute_183 rfl rfl
            · skip
              have hltw := x_nge h132 hiw
              obtain ⟨hc1, hc2⟩ := hco w hltw
              refine a_aload_n C dX12_execute_135 3 rfl ?_
              refine a_iconst C dX12_execute_136 (v := 3) (by decide) ?_
              refine a_iload_n C dX12_execute_137 0 rfl ?_
              refine a_imul C dX12_execute_138 ?_
              refine a_top (y := (nI (3 * w))) (pk_mul 3 w) ?_
              refine a_callV C (k := 175) (As := [.int (nI (3 * w))]) (rest := []) (hc1) (cwV 1 C.1.2.2.2.2 gX12_execute_X12_carriesOut rfl rfl rfl (by decide +kernel) ⟨Nat.le_of_ble_eq_true rfl, Nat.le_of_ble_eq_true rfl⟩) x_k175 (q := (RX12, TX12, 16)) rfl rfl rfl rfl (Nat.le_of_ble_eq_true rfl) dX12_execute_139 ⟨Nat.le_of_ble_eq_true rfl, Nat.le_of_ble_eq_true rfl⟩ ?_
              refine a_istore C dX12_execute_142 (by decide) (lst2 := [(4, .int (rv w)), (3, .int (nI w)), (2, .int 0), (1, .int (nI (k9 + 1))), (0, .ref (x_b G + 175))]) rfl ?_
              refine a_aload_n C dX12_execute_144 4 rfl ?_
              refine a_getI C (k := 175) iX12 x_k175 rfl (j := 12) rfl (by decide) (by decide +kernel) dX12_execute_145 ?_
              refine a_top (y := 0) hc2 ?_
              refine a_if_eq C dX12_execute_148 (tgt := 168) (by decide) (fun _ => ?_) (fun h => absurd h (by decide))
              refine a_iinc C dX12_execute_168 1 rfl (v := (nI (w + 1))) (x_inc w) (by decide) (lst2 := [(3, .int (nI (w + 1))), (4, .int (rv w)), (2, .int 0), (1, .int (nI (k9 + 1))), (0, .ref (x_b G + 175))]) rfl ?_
              refine a_goto C dX12_execute_171 (tgt := 130) (by decide) ?_
              refine a_sub (lst2 := [(3, .int (nI (w + 1))), (2, .int 0), (1, .int (nI (k9 + 1))), (0, .ref (x_b G + 175))]) [0, 2, 3, 4] rfl ?_
              refine a_to (lst2 := [(3, .int (nI ((w + 1)))), (2, .int 0), (1, .int (nI (k9 + 1))), (0, .ref (x_b G + 175))]) (st2 := []) (d2 := Gw ((w + 1))) rfl rfl rfl ?_
              exact ihw (w + 1) (by omega) (by omega) 
        refine a_sub (lst2 := [(3, .int 0), (2, .int 0), (1, .int (nI (k9 + 1))), (0, .ref (x_b G + 175))]) [0, 1, 2, 3] rfl ?_
        exact L130 ((k9 + 1) + 1) 0 (by omega) (by omega) 
  refine a_sub (lst2 := [(2, .int 1), (1, .int 0), (0, .ref (x_b G + 175))]) [0, 1, 2] rfl ?_
  refine a_toD (d2 := Ew 0) hE0.symm ?_
  exact L14 (k9 + 1) 0 (by omega) (by omega)

set_option maxHeartbeats 1000000 in
set_option maxRecDepth 100000 in
theorem c_M_execute_f (l : Launch) (G : xG) (d : xd) (tx : Nat → Nat) (L : Nat) (hL : L ≤ 60) (ht7 : ∀ j, j < L → tx j < 128) (Ew Fw : Nat → xd) (cp : Nat → Nat) (k9 : Nat) (hk9 : k9 ≤ 15) (hE0 : Ew 0 = x_p (x_p d 175 13 0) 175 14 0) (hpc : ∀ i, i ≤ k9 → x_M G l yX12_parsesCommand wsX12_parsesCommand 5 0 0 [.ref (x_b G + 175), .int (nI (3 * i))] (Ew i) none (Fw i)) (hF : ∀ i, i ≤ k9 → Fw i 175 13 = nI (cp i) ∧ cp i ≤ L ∧ Fw i 175 7 = nI L ∧ (∀ j, j < L → Fw i 180 j = nI (tx j))) (hgo : ∀ i, i < k9 → Fw i 175 14 = 0 ∧ tp_c tx L (cp i) 59 = true ∧ Ew (i + 1) = x_p (Fw i) 175 13 (nI (cp i + 1))) (hw9 : Fw k9 175 14 = 0) (hno : ¬ tp_c tx L (cp k9) 59 = true) (hend : L ≤ cp k9) (Gw : Nat → xd) (hG0 : Gw 0 = g_bg (x_p (x_p (x_p (Fw k9) 175 13 (nI (cp k9))) 175 14 0) 175 7 0)) (rv : Nat → Int32) (f9 : Nat) (hf9 : f9 < k9 + 1) (hco : ∀ w, w < f9 → x_M G l yX12_carriesOut wsX12_carriesOut 6 0 0 [.ref (x_b G + 175), .int (nI (3 * w))] (Gw w) (some (.int (rv w))) (Gw (w + 1)) ∧ Gw (w + 1) 175 12 = 0) (rb : Int32) (Zw : xd) (hbad : x_M G l yX12_carriesOut wsX12_carriesOut 6 0 0 [.ref (x_b G + 175), .int (nI (3 * f9))] (Gw f9) (some (.int (rb))) (Zw)) (hz : ¬ Zw 175 12 = 0) : x_M G l yX12_execute wsX12_execute 7 0 0 [.ref (x_b G + 175)] d (some (.int 0)) (g_kf (x_p (x_p Zw 175 9 (nI f9)) 175 12 2)) := by
  have iX12 : ∀ w ∈ u_ws RX12 TX12 16, w ∈ wsX12_execute := by decide +kernel
  refine x_start (cc := cX12_execute) (maxL := 5) (ret := (some .int)) (own := RX12) (by decide) rfl rfl (Nat.le_of_ble_eq_true rfl) (lst := [(0, .ref (x_b G + 175))]) rfl ?_
  intro p e s m args below meth c C hr hlocks
  refine a_aload_n C dX12_execute_0 0 rfl ?_
  refine a_iconst C dX12_execute_1 (v := 0) (by decide) ?_
  refine a_putI C (k := 175) iX12 tyX12_ok nmX12 x_k175 rfl (j := 13) rfl (by decide) (by decide +kernel) rfl (ty := .int) (by decide +kernel) rfl rfl dX12_execute_2 ?_
  refine a_aload_n C dX12_execute_5 0 rfl ?_
  refine a_iconst C dX12_execute_6 (v := 0) (by decide) ?_
  refine a_putI C (k := 175) iX12 tyX12_ok nmX12 x_k175 rfl (j := 14) rfl (by decide) (by decide +kernel) rfl (ty := .boolean) (by decide +kernel) rfl rfl dX12_execute_7 ?_
  refine a_iconst C dX12_execute_10 (v := 0) (by decide) ?_
  refine a_istore_n C dX12_execute_11 (by decide) (lst2 := [(1, .int 0), (0, .ref (x_b G + 175))]) rfl ?_
  refine a_iconst C dX12_execute_12 (v := 1) (by decide) ?_
  refine a_istore_n C dX12_execute_13 (by decide) (lst2 := [(2, .int 1), (1, .int 0), (0, .ref (x_b G + 175))]) rfl ?_
  have L14 : ∀ (j i : Nat), i ≤ k9 → k9 < i + j → Ab G p l e (x_rm 7 0 0) s m args below meth c 5 0 0 (MQ below (x_Q G (some (.int 0)) (g_kf (x_p (x_p Zw 175 9 (nI f9)) 175 12 2))) args s 0 0 (x_A G)) 14 [(2, .int 1), (1, .int (nI i)), (0, .ref (x_b G + 175))] [] (Ew i) := by
    intro j
    induction j with
    | zero => intro i h1 h2; exact absurd h2 (by omega)
    | succ j ih =>
      intro i hi hj 
      refine a_iload_n C dX12_execute_14 0 rfl ?_
      refine a_if_eq C dX12_execute_15 (tgt := 71) (by decide) (fun h => absurd h (by decide)) (fun _ => ?_)
      rcases Nat.lt_or_ge i k9 with hik | hik
      · skip
        obtain ⟨hf13, hfL, hf7, hf180⟩ := hF i (by omega)
        obtain ⟨hg14, h59, hE⟩ := hgo i hik
        have hpc9 := hpc i (by omega)
        refine a_aload_n C dX12_execute_18 2 rfl ?_
        refine a_iconst C dX12_execute_19 (v := 3) (by decide) ?_
        refine a_iload_n C dX12_execute_20 1 rfl ?_
        refine a_imul C dX12_execute_21 ?_
        refine a_top (y := (nI (3 * i))) (pk_mul 3 i) ?_
        refine a_callV C (k := 175) (As := [.int (nI (3 * i))]) (rest := []) (hpc9) (cwV 1 C.1.2.2.2.2 gX12_execute_X12_parsesCommand rfl rfl rfl (by decide +kernel) ⟨Nat.le_of_ble_eq_true rfl, Nat.le_of_ble_eq_true rfl⟩) x_k175 (q := (RX12, TX12, 16)) rfl rfl rfl rfl (Nat.le_of_ble_eq_true rfl) dX12_execute_22 ⟨Nat.le_of_ble_eq_true rfl, Nat.le_of_ble_eq_true rfl⟩ ?_
        refine a_iinc C dX12_execute_25 1 rfl (v := (nI (i + 1))) (x_inc i) (by decide) (lst2 := [(1, .int (nI (i + 1))), (2, .int 1), (0, .ref (x_b G + 175))]) rfl ?_
        refine a_aload_n C dX12_execute_28 2 rfl ?_
        refine a_getI C (k := 175) iX12 x_k175 rfl (j := 14) rfl (by decide) (by decide +kernel) dX12_execute_29 ?_
        refine a_top (y := 0) hg14 ?_
        refine a_if_ne C dX12_execute_32 (tgt := 48) (by decide) (fun h => absurd h (by decide)) (fun _ => ?_)
        refine a_aload_n C dX12_execute_35 2 rfl ?_
        refine a_callV C (k := 175) (As := []) (rest := []) (c_M_here l G (Fw i) tx L hL hf7 hf180 ht7 (cp i) hf13 (by omega)) (cwV 0 C.1.2.2.2.2 gX12_execute_X12_here rfl rfl rfl (by decide +kernel) ⟨Nat.le_of_ble_eq_true rfl, Nat.le_of_ble_eq_true rfl⟩) x_k175 (q := (RX12, TX12, 16)) rfl rfl rfl rfl (Nat.le_of_ble_eq_true rfl) dX12_execute_36 ⟨Nat.le_of_ble_eq_true rfl, Nat.le_of_ble_eq_true rfl⟩ ?_
        refine a_bipush C dX12_execute_39 (v := 59) (by decide) ?_
        refine a_icmp_ne C dX12_execute_41 (tgt := 48) (by decide) (fun h => False.elim (h ((tp_h_c (a := 59) ht7 (by omega)).mpr h59))) (fun h41 => ?_)
        refine a_iconst C dX12_execute_44 (v := 1) (by decide) ?_
        refine a_goto C dX12_execute_45 (tgt := 49) (by decide) ?_
        refine a_istore_n C dX12_execute_49 (by decide) (lst2 := [(2, .int 1), (1, .int (nI (i + 1))), (0, .ref (x_b G + 175))]) rfl ?_
        refine a_aload_n C dX12_execute_50 2 rfl ?_
        refine a_dup C dX12_execute_51 rfl ?_
        refine a_getI C (k := 175) iX12 x_k175 rfl (j := 13) rfl (by decide) (by decide +kernel) dX12_execute_52 ?_
        refine a_top (y := (nI (cp i))) hf13 ?_
        refine a_iload_n C dX12_execute_55 0 rfl ?_
        refine a_if_eq C dX12_execute_56 (tgt := 63) (by decide) (fun h => absurd h (by decide)) (fun _ => ?_)
        refine a_iconst C dX12_execute_59 (v := 1) (by decide) ?_
        refine a_goto C dX12_execute_60 (tgt := 64) (by decide) ?_
        refine a_iadd C dX12_execute_64 ?_
        refine a_top (y := (nI (cp i + 1))) (nI_1 _) ?_
        refine a_putI C (k := 175) iX12 tyX12_ok nmX12 x_k175 rfl (j := 13) rfl (by decide) (by decide +kernel) rfl (ty := .int) (by decide +kernel) rfl rfl dX12_execute_65 ?_
        refine a_toD (d2 := Ew (i + 1)) hE.symm ?_
        refine a_goto C dX12_execute_68 (tgt := 14) (by decide) ?_
        refine a_sub (lst2 := [(2, .int 1), (1, .int (nI (i + 1))), (0, .ref (x_b G + 175))]) [0, 1, 2] rfl ?_
        refine a_to (lst2 := [(2, .int 1), (1, .int (nI ((i + 1)))), (0, .ref (x_b G + 175))]) (st2 := []) (d2 := Ew ((i + 1))) rfl rfl rfl ?_
        exact ih (i + 1) (by omega) (by omega) 
      · skip
        have e9 : k9 = i := by omega
        subst e9
        obtain ⟨hf13, hfL, hf7, hf180⟩ := hF k9 (Nat.le_refl _)
        have hpc9 := hpc k9 (Nat.le_refl _)
        refine a_aload_n C dX12_execute_18 2 rfl ?_
        refine a_iconst C dX12_execute_19 (v := 3) (by decide) ?_
        refine a_iload_n C dX12_execute_20 1 rfl ?_
        refine a_imul C dX12_execute_21 ?_
        refine a_top (y := (nI (3 * k9))) (pk_mul 3 k9) ?_
        refine a_callV C (k := 175) (As := [.int (nI (3 * k9))]) (rest := []) (hpc9) (cwV 1 C.1.2.2.2.2 gX12_execute_X12_parsesCommand rfl rfl rfl (by decide +kernel) ⟨Nat.le_of_ble_eq_true rfl, Nat.le_of_ble_eq_true rfl⟩) x_k175 (q := (RX12, TX12, 16)) rfl rfl rfl rfl (Nat.le_of_ble_eq_true rfl) dX12_execute_22 ⟨Nat.le_of_ble_eq_true rfl, Nat.le_of_ble_eq_true rfl⟩ ?_
        refine a_iinc C dX12_execute_25 1 rfl (v := (nI (k9 + 1))) (x_inc k9) (by decide) (lst2 := [(1, .int (nI (k9 + 1))), (2, .int 1), (0, .ref (x_b G + 175))]) rfl ?_
        refine a_aload_n C dX12_execute_28 2 rfl ?_
        refine a_getI C (k := 175) iX12 x_k175 rfl (j := 14) rfl (by decide) (by decide +kernel) dX12_execute_29 ?_
        refine a_top (y := 0) hw9 ?_
        refine a_if_ne C dX12_execute_32 (tgt := 48) (by decide) (fun h => absurd h (by decide)) (fun _ => ?_)
        refine a_aload_n C dX12_execute_35 2 rfl ?_
        refine a_callV C (k := 175) (As := []) (rest := []) (c_M_here l G (Fw k9) tx L hL hf7 hf180 ht7 (cp k9) hf13 (by omega)) (cwV 0 C.1.2.2.2.2 gX12_execute_X12_here rfl rfl rfl (by decide +kernel) ⟨Nat.le_of_ble_eq_true rfl, Nat.le_of_ble_eq_true rfl⟩) x_k175 (q := (RX12, TX12, 16)) rfl rfl rfl rfl (Nat.le_of_ble_eq_true rfl) dX12_execute_36 ⟨Nat.le_of_ble_eq_true rfl, Nat.le_of_ble_eq_true rfl⟩ ?_
        refine a_bipush C dX12_execute_39 (v := 59) (by decide) ?_
        refine a_icmp_ne C dX12_execute_41 (tgt := 48) (by decide) (fun h41 => ?_) (fun h => False.elim (hno ((tp_h_c (a := 59) ht7 (by omega)).mp h)))
        refine a_iconst C dX12_execute_48 (v := 0) (by decide) ?_
        refine a_istore_n C dX12_execute_49 (by decide) (lst2 := [(2, .int 0), (1, .int (nI (k9 + 1))), (0, .ref (x_b G + 175))]) rfl ?_
        refine a_aload_n C dX12_execute_50 2 rfl ?_
        refine a_dup C dX12_execute_51 rfl ?_
        refine a_getI C (k := 175) iX12 x_k175 rfl (j := 13) rfl (by decide) (by decide +kernel) dX12_execute_52 ?_
        refine a_top (y := (nI (cp k9))) hf13 ?_
        refine a_iload_n C dX12_execute_55 0 rfl ?_
        refine a_if_eq C dX12_execute_56 (tgt := 63) (by decide) (fun _ => ?_) (fun h => absurd h (by decide))
        refine a_iconst C dX12_execute_63 (v := 0) (by decide) ?_
        refine a_iadd C dX12_execute_64 ?_
        refine a_top (y := (nI (cp k9))) (x_ad0 _) ?_
        refine a_putI C (k := 175) iX12 tyX12_ok nmX12 x_k175 rfl (j := 13) rfl (by decide) (by decide +kernel) rfl (ty := .int) (by decide +kernel) rfl rfl dX12_execute_65 ?_
        refine a_goto C dX12_execute_68 (tgt := 14) (by decide) ?_
        refine a_iload_n C dX12_execute_14 0 rfl ?_
        refine a_if_eq C dX12_execute_15 (tgt := 71) (by decide) (fun _ => ?_) (fun h => absurd rfl h)
        refine a_aload_n C dX12_execute_71 2 rfl ?_
        refine a_aload_n C dX12_execute_72 2 rfl ?_
        refine a_getI C (k := 175) iX12 x_k175 rfl (j := 14) rfl (by decide) (by decide +kernel) dX12_execute_73 ?_
        refine a_top (y := ((Fw k9) 175 14)) (by first | rw [x_p_row (by omega)] | rfl) ?_
        refine a_top (y := 0) hw9 ?_
        refine a_if_ne C dX12_execute_76 (tgt := 90) (by decide) (fun h => absurd h (by decide)) (fun _ => ?_)
        refine a_aload_n C dX12_execute_79 2 rfl ?_
        refine a_getI C (k := 175) iX12 x_k175 rfl (j := 13) rfl (by decide) (by decide +kernel) dX12_execute_80 ?_
        refine a_top (y := ((nI (cp k9)))) (by first | rw [x_p_at] | rfl) ?_
        refine a_top (y := (nI (cp k9))) rfl ?_
        refine a_aload_n C dX12_execute_83 2 rfl ?_
        refine a_getI C (k := 175) iX12 x_k175 rfl (j := 7) rfl (by decide) (by decide +kernel) dX12_execute_84 ?_
        refine a_top (y := ((Fw k9) 175 7)) (by first | rw [x_p_row (by omega)] | rfl) ?_
        refine a_top (y := (nI L)) hf7 ?_
        refine a_icmp_ge C dX12_execute_87 (tgt := 94) (by decide) (fun h87 => ?_) (fun h => False.elim (h (nI_le hend (by omega))))
        refine a_iconst C dX12_execute_94 (v := 0) (by decide) ?_
        refine a_putI C (k := 175) iX12 tyX12_ok nmX12 x_k175 rfl (j := 14) rfl (by decide) (by decide +kernel) rfl (ty := .boolean) (by decide +kernel) rfl rfl dX12_execute_95 ?_
        refine a_aload_n C dX12_execute_98 2 rfl ?_
        refine a_iconst C dX12_execute_99 (v := 0) (by decide) ?_
        refine a_putI C (k := 175) iX12 tyX12_ok nmX12 x_k175 rfl (j := 7) rfl (by decide) (by decide +kernel) rfl (ty := .int) (by decide +kernel) rfl rfl dX12_execute_100 ?_
        refine a_aload_n C dX12_execute_103 2 rfl ?_
        refine a_getI C (k := 175) iX12 x_k175 rfl (j := 14) rfl (by decide) (by decide +kernel) dX12_execute_104 ?_
        refine a_top (y := 0) (by first | rw [x_p_row (by omega), x_p_at] | rfl) ?_
        refine a_top (y := 0) rfl ?_
        refine a_if_eq C dX12_execute_107 (tgt := 124) (by decide) (fun _ => ?_) (fun h => absurd h (by decide))
        refine a_aload_n C dX12_execute_124 2 rfl ?_
        refine a_callV C (k := 175) (As := []) (rest := []) (c_M_begin l G (x_p (x_p (x_p (Fw k9) 175 13 (nI (cp k9))) 175 14 0) 175 7 0)) (cwV 0 C.1.2.2.2.2 gX12_execute_X12_begin rfl rfl rfl (by decide +kernel) ⟨Nat.le_of_ble_eq_true rfl, Nat.le_of_ble_eq_true rfl⟩) x_k175 (q := (RX12, TX12, 16)) rfl rfl rfl rfl (Nat.le_of_ble_eq_true rfl) dX12_execute_125 ⟨Nat.le_of_ble_eq_true rfl, Nat.le_of_ble_eq_true rfl⟩ ?_
        refine a_toD (d2 := Gw 0) hG0.symm ?_
        refine a_iconst C dX12_execute_128 (v := 0) (by decide) ?_
        refine a_istore_n C dX12_execute_129 (by decide) (lst2 := [(3, .int 0), (2, .int 0), (1, .int (nI (k9 + 1))), (0, .ref (x_b G + 175))]) rfl ?_
        have L130 : ∀ (j w : Nat), w ≤ f9 → f9 < w + j → Ab G p l e (x_rm 7 0 0) s m args below meth c 5 0 0 (MQ below (x_Q G (some (.int 0)) (g_kf (x_p (x_p Zw 175 9 (nI f9)) 175 12 2))) args s 0 0 (x_A G)) 130 [(3, .int (nI w)), (2, .int 0), (1, .int (nI (k9 + 1))), (0, .ref (x_b G + 175))] [] (Gw w) := by
          intro j
          induction j with
          | zero => intro w h1 h2; exact absurd h2 (by omega)
          | succ j ihw =>
            intro w hiw hj 
            refine a_iload_n C dX12_execute_130 0 rfl ?_
            refine a_iload_n C dX12_execute_131 2 rfl ?_
            refine a_icmp_ge C dX12_execute_132 (tgt := 174) (by decide) (fun h => absurd h (nI_ge (by omega) (by omega))) (fun h132 => ?_)
            rcases Nat.lt_or_ge w f9 with hwf | hwf
            · skip
              obtain ⟨hc1, hc2⟩ := hco w hwf
              refine a_aload_n C dX12_execute_135 3 rfl ?_
              refine a_iconst C dX12_execute_136 (v := 3) (by decide) ?_
              refine a_iload_n C dX12_execute_137 0 rfl ?_
              refine a_imul C dX12_execute_138 ?_
              refine a_top (y := (nI (3 * w))) (pk_mul 3 w) ?_
              refine a_callV C (k := 175) (As := [.int (nI (3 * w))]) (rest := []) (hc1) (cwV 1 C.1.2.2.2.2 gX12_execute_X12_carriesOut rfl rfl rfl (by decide +kernel) ⟨Nat.le_of_ble_eq_true rfl, Nat.le_of_ble_eq_true rfl⟩) x_k175 (q := (RX12, TX12, 16)) rfl rfl rfl rfl (Nat.le_of_ble_eq_true rfl) dX12_execute_139 ⟨Nat.le_of_ble_eq_true rfl, Nat.le_of_ble_eq_true rfl⟩ ?_
              refine a_istore C dX12_execute_142 (by decide) (lst2 := [(4, .int (rv w)), (3, .int (nI w)), (2, .int 0), (1, .int (nI (k9 + 1))), (0, .ref (x_b G + 175))]) rfl ?_
              refine a_aload_n C dX12_execute_144 4 rfl ?_
              refine a_getI C (k := 175) iX12 x_k175 rfl (j := 12) rfl (by decide) (by decide +kernel) dX12_execute_145 ?_
              refine a_top (y := 0) hc2 ?_
              refine a_if_eq C dX12_execute_148 (tgt := 168) (by decide) (fun _ => ?_) (fun h => absurd h (by decide))
              refine a_iinc C dX12_execute_168 1 rfl (v := (nI (w + 1))) (x_inc w) (by decide) (lst2 := [(3, .int (nI (w + 1))), (4, .int (rv w)), (2, .int 0), (1, .int (nI (k9 + 1))), (0, .ref (x_b G + 175))]) rfl ?_
              refine a_goto C dX12_execute_171 (tgt := 130) (by decide) ?_
              refine a_sub (lst2 := [(3, .int (nI (w + 1))), (2, .int 0), (1, .int (nI (k9 + 1))), (0, .ref (x_b G + 175))]) [0, 2, 3, 4] rfl ?_
              refine a_to (lst2 := [(3, .int (nI ((w + 1)))), (2, .int 0), (1, .int (nI (k9 + 1))), (0, .ref (x_b G + 175))]) (st2 := []) (d2 := Gw ((w + 1))) rfl rfl rfl ?_
              exact ihw (w + 1) (by omega) (by omega) 
            · skip
              have e9 : f9 = w := by omega
              subst e9
              refine a_aload_n C dX12_execute_135 3 rfl ?_
              refine a_iconst C dX12_execute_136 (v := 3) (by decide) ?_
              refine a_iload_n C dX12_execute_137 0 rfl ?_
              refine a_imul C dX12_execute_138 ?_
              refine a_top (y := (nI (3 * f9))) (pk_mul 3 f9) ?_
              refine a_callV C (k := 175) (As := [.int (nI (3 * f9))]) (rest := []) (hbad) (cwV 1 C.1.2.2.2.2 gX12_execute_X12_carriesOut rfl rfl rfl (by decide +kernel) ⟨Nat.le_of_ble_eq_true rfl, Nat.le_of_ble_eq_true rfl⟩) x_k175 (q := (RX12, TX12, 16)) rfl rfl rfl rfl (Nat.le_of_ble_eq_true rfl) dX12_execute_139 ⟨Nat.le_of_ble_eq_true rfl, Nat.le_of_ble_eq_true rfl⟩ ?_
              refine a_istore C dX12_execute_142 (by decide) (lst2 := [(4, .int rb), (3, .int (nI f9)), (2, .int 0), (1, .int (nI (k9 + 1))), (0, .ref (x_b G + 175))]) rfl ?_
              refine a_aload_n C dX12_execute_144 4 rfl ?_
              refine a_getI C (k := 175) iX12 x_k175 rfl (j := 12) rfl (by decide) (by decide +kernel) dX12_execute_145 ?_
              refine a_if_eq C dX12_execute_148 (tgt := 168) (by decide) (fun h => False.elim (hz h)) (fun h148 => ?_)
              refine a_aload_n C dX12_execute_151 4 rfl ?_
              refine a_iload_n C dX12_execute_152 1 rfl ?_
              refine a_putI C (k := 175) iX12 tyX12_ok nmX12 x_k175 rfl (j := 9) rfl (by decide) (by decide +kernel) rfl (ty := .int) (by decide +kernel) rfl rfl dX12_execute_153 ?_
              refine a_aload_n C dX12_execute_156 4 rfl ?_
              refine a_iconst C dX12_execute_157 (v := 2) (by decide) ?_
              refine a_putI C (k := 175) iX12 tyX12_ok nmX12 x_k175 rfl (j := 12) rfl (by decide) (by decide +kernel) rfl (ty := .int) (by decide +kernel) rfl rfl dX12_execute_158 ?_
              refine a_aload_n C dX12_execute_161 4 rfl ?_
              refine a_iload C dX12_execute_162 0 rfl ?_
              refine a_callV C (k := 175) (As := [.int rb]) (rest := []) (c_M_kept_f l G (x_p (x_p Zw 175 9 (nI f9)) 175 12 2) rb (by rw [x_p_at]; decide)) (cwV 1 C.1.2.2.2.2 gX12_execute_X12_kept rfl rfl rfl (by decide +kernel) ⟨Nat.le_of_ble_eq_true rfl, Nat.le_of_ble_eq_true rfl⟩) x_k175 (q := (RX12, TX12, 16)) rfl rfl rfl rfl (Nat.le_of_ble_eq_true rfl) dX12_execute_164 ⟨Nat.le_of_ble_eq_true rfl, Nat.le_of_ble_eq_true rfl⟩ ?_
              exact a_iret C hlocks hr dX12_execute_167 rfl rfl
        refine a_sub (lst2 := [(3, .int 0), (2, .int 0), (1, .int (nI (k9 + 1))), (0, .ref (x_b G + 175))]) [0, 1, 2, 3] rfl ?_
        exact L130 (f9 + 1) 0 (by omega) (by omega) 
  refine a_sub (lst2 := [(2, .int 1), (1, .int 0), (0, .ref (x_b G + 175))]) [0, 1, 2] rfl ?_
  refine a_toD (d2 := Ew 0) hE0.symm ?_
  exact L14 (k9 + 1) 0 (by omega) (by omega)

set_option maxHeartbeats 1000000 in
set_option maxRecDepth 100000 in
theorem c_M_carriesOut_0 (l : Launch) (G : xG) (d : xd) (k9 : Nat) (hk9 : k9 < 177) (hv : d 182 k9 = nI 108) (a b : Int32) (ha : d 182 (k9 + 1) = a) (hb : d 182 (k9 + 2) = b) (r9 : Int32) (d9 : xd) (hop : x_M G l yX12_adds wsX12_adds 3 0 0 [.ref (x_b G + 175), .int a, .int b] d (some (.int r9)) d9) : x_M G l yX12_carriesOut wsX12_carriesOut 6 0 0 [.ref (x_b G + 175), .int (nI k9)] d (some (.int r9)) d9 := by
  have iX12 : ∀ w ∈ u_ws RX12 TX12 16, w ∈ wsX12_carriesOut := by decide +kernel
  refine x_start (cc := cX12_carriesOut) (maxL := 4) (ret := (some .int)) (own := RX12) (by decide) rfl rfl (Nat.le_of_ble_eq_true rfl) (lst := [(0, .ref (x_b G + 175)), (1, .int (nI k9))]) rfl ?_
  intro p e s m args below meth c C hr hlocks
  refine a_aload_n C dX12_carriesOut_0 0 rfl ?_
  refine a_getR C (k := 175) iX12 x_k175 rfl (j := 15) rfl (by decide) (by decide +kernel) dX12_carriesOut_1 ?_
  refine a_iload_n C dX12_carriesOut_4 1 rfl ?_
  refine a_iconst C dX12_carriesOut_5 (v := 1) (by decide) ?_
  refine a_iadd C dX12_carriesOut_6 ?_
  refine a_ialdN C (k := 182) x_k182 (i := k9 + 1) (x_add2 (a := k9) (b := 1) rfl rfl) (by omega) (by first | decide | omega) dX12_carriesOut_7 ?_
  refine a_top (y := a) ha ?_
  refine a_istore_n C dX12_carriesOut_8 (by decide) (lst2 := [(2, .int a), (0, .ref (x_b G + 175)), (1, .int (nI k9))]) rfl ?_
  refine a_aload_n C dX12_carriesOut_9 1 rfl ?_
  refine a_getR C (k := 175) iX12 x_k175 rfl (j := 15) rfl (by decide) (by decide +kernel) dX12_carriesOut_10 ?_
  refine a_iload_n C dX12_carriesOut_13 2 rfl ?_
  refine a_iconst C dX12_carriesOut_14 (v := 2) (by decide) ?_
  refine a_iadd C dX12_carriesOut_15 ?_
  refine a_ialdN C (k := 182) x_k182 (i := k9 + 2) (x_add2 (a := k9) (b := 2) rfl rfl) (by omega) (by first | decide | omega) dX12_carriesOut_16 ?_
  refine a_top (y := b) hb ?_
  refine a_istore_n C dX12_carriesOut_17 (by decide) (lst2 := [(3, .int b), (2, .int a), (0, .ref (x_b G + 175)), (1, .int (nI k9))]) rfl ?_
  refine a_aload_n C dX12_carriesOut_18 2 rfl ?_
  refine a_getR C (k := 175) iX12 x_k175 rfl (j := 15) rfl (by decide) (by decide +kernel) dX12_carriesOut_19 ?_
  refine a_iload_n C dX12_carriesOut_22 3 rfl ?_
  refine a_ialdN C (k := 182) x_k182 (i := k9) rfl (by omega) (by first | decide | omega) dX12_carriesOut_23 ?_
  refine a_top (y := (nI 108)) hv ?_
  refine a_tableIn C dX12_carriesOut_24 (by decide +kernel) (by decide +kernel) (off := 104) (by decide +kernel) (tgt := 128) (by decide) ?_
  refine a_aload_n C dX12_carriesOut_128 2 rfl ?_
  refine a_iload_n C dX12_carriesOut_129 1 rfl ?_
  refine a_iload_n C dX12_carriesOut_130 0 rfl ?_
  refine a_callV C (k := 175) (As := [.int a, .int b]) (rest := []) (hop) (cwV 2 C.1.2.2.2.2 gX12_carriesOut_X12_adds rfl rfl rfl (by decide +kernel) ⟨Nat.le_of_ble_eq_true rfl, Nat.le_of_ble_eq_true rfl⟩) x_k175 (q := (RX12, TX12, 16)) rfl rfl rfl rfl (Nat.le_of_ble_eq_true rfl) dX12_carriesOut_131 ⟨Nat.le_of_ble_eq_true rfl, Nat.le_of_ble_eq_true rfl⟩ ?_
  exact a_iret C hlocks hr dX12_carriesOut_134 rfl rfl

set_option maxHeartbeats 1000000 in
set_option maxRecDepth 100000 in
theorem c_M_carriesOut_1 (l : Launch) (G : xG) (d : xd) (k9 : Nat) (hk9 : k9 < 177) (hv : d 182 k9 = nI 114) (a b : Int32) (ha : d 182 (k9 + 1) = a) (hb : d 182 (k9 + 2) = b) (r9 : Int32) (d9 : xd) (hop : x_M G l yX12_removes wsX12_removes 3 0 0 [.ref (x_b G + 175), .int a] d (some (.int r9)) d9) : x_M G l yX12_carriesOut wsX12_carriesOut 6 0 0 [.ref (x_b G + 175), .int (nI k9)] d (some (.int r9)) d9 := by
  have iX12 : ∀ w ∈ u_ws RX12 TX12 16, w ∈ wsX12_carriesOut := by decide +kernel
  refine x_start (cc := cX12_carriesOut) (maxL := 4) (ret := (some .int)) (own := RX12) (by decide) rfl rfl (Nat.le_of_ble_eq_true rfl) (lst := [(0, .ref (x_b G + 175)), (1, .int (nI k9))]) rfl ?_
  intro p e s m args below meth c C hr hlocks
  refine a_aload_n C dX12_carriesOut_0 0 rfl ?_
  refine a_getR C (k := 175) iX12 x_k175 rfl (j := 15) rfl (by decide) (by decide +kernel) dX12_carriesOut_1 ?_
  refine a_iload_n C dX12_carriesOut_4 1 rfl ?_
  refine a_iconst C dX12_carriesOut_5 (v := 1) (by decide) ?_
  refine a_iadd C dX12_carriesOut_6 ?_
  refine a_ialdN C (k := 182) x_k182 (i := k9 + 1) (x_add2 (a := k9) (b := 1) rfl rfl) (by omega) (by first | decide | omega) dX12_carriesOut_7 ?_
  refine a_top (y := a) ha ?_
  refine a_istore_n C dX12_carriesOut_8 (by decide) (lst2 := [(2, .int a), (0, .ref (x_b G + 175)), (1, .int (nI k9))]) rfl ?_
  refine a_aload_n C dX12_carriesOut_9 1 rfl ?_
  refine a_getR C (k := 175) iX12 x_k175 rfl (j := 15) rfl (by decide) (by decide +kernel) dX12_carriesOut_10 ?_
  refine a_iload_n C dX12_carriesOut_13 2 rfl ?_
  refine a_iconst C dX12_carriesOut_14 (v := 2) (by decide) ?_
  refine a_iadd C dX12_carriesOut_15 ?_
  refine a_ialdN C (k := 182) x_k182 (i := k9 + 2) (x_add2 (a := k9) (b := 2) rfl rfl) (by omega) (by first | decide | omega) dX12_carriesOut_16 ?_
  refine a_top (y := b) hb ?_
  refine a_istore_n C dX12_carriesOut_17 (by decide) (lst2 := [(3, .int b), (2, .int a), (0, .ref (x_b G + 175)), (1, .int (nI k9))]) rfl ?_
  refine a_aload_n C dX12_carriesOut_18 2 rfl ?_
  refine a_getR C (k := 175) iX12 x_k175 rfl (j := 15) rfl (by decide) (by decide +kernel) dX12_carriesOut_19 ?_
  refine a_iload_n C dX12_carriesOut_22 3 rfl ?_
  refine a_ialdN C (k := 182) x_k182 (i := k9) rfl (by omega) (by first | decide | omega) dX12_carriesOut_23 ?_
  refine a_top (y := (nI 114)) hv ?_
  refine a_tableIn C dX12_carriesOut_24 (by decide +kernel) (by decide +kernel) (off := 111) (by decide +kernel) (tgt := 135) (by decide) ?_
  refine a_aload_n C dX12_carriesOut_135 2 rfl ?_
  refine a_iload_n C dX12_carriesOut_136 1 rfl ?_
  refine a_callV C (k := 175) (As := [.int a]) (rest := []) (hop) (cwV 1 C.1.2.2.2.2 gX12_carriesOut_X12_removes rfl rfl rfl (by decide +kernel) ⟨Nat.le_of_ble_eq_true rfl, Nat.le_of_ble_eq_true rfl⟩) x_k175 (q := (RX12, TX12, 16)) rfl rfl rfl rfl (Nat.le_of_ble_eq_true rfl) dX12_carriesOut_137 ⟨Nat.le_of_ble_eq_true rfl, Nat.le_of_ble_eq_true rfl⟩ ?_
  exact a_iret C hlocks hr dX12_carriesOut_140 rfl rfl

set_option maxHeartbeats 1000000 in
set_option maxRecDepth 100000 in
theorem c_M_carriesOut_2 (l : Launch) (G : xG) (d : xd) (k9 : Nat) (hk9 : k9 < 177) (hv : d 182 k9 = nI 105) (a b : Int32) (ha : d 182 (k9 + 1) = a) (hb : d 182 (k9 + 2) = b) (r9 : Int32) (d9 : xd) (hop : x_M G l yX12_delivers wsX12_delivers 5 0 0 [.ref (x_b G + 175), .int a] d (some (.int r9)) d9) : x_M G l yX12_carriesOut wsX12_carriesOut 6 0 0 [.ref (x_b G + 175), .int (nI k9)] d (some (.int r9)) d9 := by
  have iX12 : ∀ w ∈ u_ws RX12 TX12 16, w ∈ wsX12_carriesOut := by decide +kernel
  refine x_start (cc := cX12_carriesOut) (maxL := 4) (ret := (some .int)) (own := RX12) (by decide) rfl rfl (Nat.le_of_ble_eq_true rfl) (lst := [(0, .ref (x_b G + 175)), (1, .int (nI k9))]) rfl ?_
  intro p e s m args below meth c C hr hlocks
  refine a_aload_n C dX12_carriesOut_0 0 rfl ?_
  refine a_getR C (k := 175) iX12 x_k175 rfl (j := 15) rfl (by decide) (by decide +kernel) dX12_carriesOut_1 ?_
  refine a_iload_n C dX12_carriesOut_4 1 rfl ?_
  refine a_iconst C dX12_carriesOut_5 (v := 1) (by decide) ?_
  refine a_iadd C dX12_carriesOut_6 ?_
  refine a_ialdN C (k := 182) x_k182 (i := k9 + 1) (x_add2 (a := k9) (b := 1) rfl rfl) (by omega) (by first | decide | omega) dX12_carriesOut_7 ?_
  refine a_top (y := a) ha ?_
  refine a_istore_n C dX12_carriesOut_8 (by decide) (lst2 := [(2, .int a), (0, .ref (x_b G + 175)), (1, .int (nI k9))]) rfl ?_
  refine a_aload_n C dX12_carriesOut_9 1 rfl ?_
  refine a_getR C (k := 175) iX12 x_k175 rfl (j := 15) rfl (by decide) (by decide +kernel) dX12_carriesOut_10 ?_
  refine a_iload_n C dX12_carriesOut_13 2 rfl ?_
  refine a_iconst C dX12_carriesOut_14 (v := 2) (by decide) ?_
  refine a_iadd C dX12_carriesOut_15 ?_
  refine a_ialdN C (k := 182) x_k182 (i := k9 + 2) (x_add2 (a := k9) (b := 2) rfl rfl) (by omega) (by first | decide | omega) dX12_carriesOut_16 ?_
  refine a_top (y := b) hb ?_
  refine a_istore_n C dX12_carriesOut_17 (by decide) (lst2 := [(3, .int b), (2, .int a), (0, .ref (x_b G + 175)), (1, .int (nI k9))]) rfl ?_
  refine a_aload_n C dX12_carriesOut_18 2 rfl ?_
  refine a_getR C (k := 175) iX12 x_k175 rfl (j := 15) rfl (by decide) (by decide +kernel) dX12_carriesOut_19 ?_
  refine a_iload_n C dX12_carriesOut_22 3 rfl ?_
  refine a_ialdN C (k := 182) x_k182 (i := k9) rfl (by omega) (by first | decide | omega) dX12_carriesOut_23 ?_
  refine a_top (y := (nI 105)) hv ?_
  refine a_tableIn C dX12_carriesOut_24 (by decide +kernel) (by decide +kernel) (off := 117) (by decide +kernel) (tgt := 141) (by decide) ?_
  refine a_aload_n C dX12_carriesOut_141 2 rfl ?_
  refine a_iload_n C dX12_carriesOut_142 1 rfl ?_
  refine a_callV C (k := 175) (As := [.int a]) (rest := []) (hop) (cwV 1 C.1.2.2.2.2 gX12_carriesOut_X12_delivers rfl rfl rfl (by decide +kernel) ⟨Nat.le_of_ble_eq_true rfl, Nat.le_of_ble_eq_true rfl⟩) x_k175 (q := (RX12, TX12, 16)) rfl rfl rfl rfl (Nat.le_of_ble_eq_true rfl) dX12_carriesOut_143 ⟨Nat.le_of_ble_eq_true rfl, Nat.le_of_ble_eq_true rfl⟩ ?_
  exact a_iret C hlocks hr dX12_carriesOut_146 rfl rfl

set_option maxHeartbeats 1000000 in
set_option maxRecDepth 100000 in
theorem c_M_carriesOut_3 (l : Launch) (G : xG) (d : xd) (k9 : Nat) (hk9 : k9 < 177) (hv : d 182 k9 = nI 119) (a b : Int32) (ha : d 182 (k9 + 1) = a) (hb : d 182 (k9 + 2) = b) (r9 : Int32) (d9 : xd) (hop : x_M G l yX12_donates wsX12_donates 3 0 0 [.ref (x_b G + 175), .int a] d (some (.int r9)) d9) : x_M G l yX12_carriesOut wsX12_carriesOut 6 0 0 [.ref (x_b G + 175), .int (nI k9)] d (some (.int r9)) d9 := by
  have iX12 : ∀ w ∈ u_ws RX12 TX12 16, w ∈ wsX12_carriesOut := by decide +kernel
  refine x_start (cc := cX12_carriesOut) (maxL := 4) (ret := (some .int)) (own := RX12) (by decide) rfl rfl (Nat.le_of_ble_eq_true rfl) (lst := [(0, .ref (x_b G + 175)), (1, .int (nI k9))]) rfl ?_
  intro p e s m args below meth c C hr hlocks
  refine a_aload_n C dX12_carriesOut_0 0 rfl ?_
  refine a_getR C (k := 175) iX12 x_k175 rfl (j := 15) rfl (by decide) (by decide +kernel) dX12_carriesOut_1 ?_
  refine a_iload_n C dX12_carriesOut_4 1 rfl ?_
  refine a_iconst C dX12_carriesOut_5 (v := 1) (by decide) ?_
  refine a_iadd C dX12_carriesOut_6 ?_
  refine a_ialdN C (k := 182) x_k182 (i := k9 + 1) (x_add2 (a := k9) (b := 1) rfl rfl) (by omega) (by first | decide | omega) dX12_carriesOut_7 ?_
  refine a_top (y := a) ha ?_
  refine a_istore_n C dX12_carriesOut_8 (by decide) (lst2 := [(2, .int a), (0, .ref (x_b G + 175)), (1, .int (nI k9))]) rfl ?_
  refine a_aload_n C dX12_carriesOut_9 1 rfl ?_
  refine a_getR C (k := 175) iX12 x_k175 rfl (j := 15) rfl (by decide) (by decide +kernel) dX12_carriesOut_10 ?_
  refine a_iload_n C dX12_carriesOut_13 2 rfl ?_
  refine a_iconst C dX12_carriesOut_14 (v := 2) (by decide) ?_
  refine a_iadd C dX12_carriesOut_15 ?_
  refine a_ialdN C (k := 182) x_k182 (i := k9 + 2) (x_add2 (a := k9) (b := 2) rfl rfl) (by omega) (by first | decide | omega) dX12_carriesOut_16 ?_
  refine a_top (y := b) hb ?_
  refine a_istore_n C dX12_carriesOut_17 (by decide) (lst2 := [(3, .int b), (2, .int a), (0, .ref (x_b G + 175)), (1, .int (nI k9))]) rfl ?_
  refine a_aload_n C dX12_carriesOut_18 2 rfl ?_
  refine a_getR C (k := 175) iX12 x_k175 rfl (j := 15) rfl (by decide) (by decide +kernel) dX12_carriesOut_19 ?_
  refine a_iload_n C dX12_carriesOut_22 3 rfl ?_
  refine a_ialdN C (k := 182) x_k182 (i := k9) rfl (by omega) (by first | decide | omega) dX12_carriesOut_23 ?_
  refine a_top (y := (nI 119)) hv ?_
  refine a_tableIn C dX12_carriesOut_24 (by decide +kernel) (by decide +kernel) (off := 123) (by decide +kernel) (tgt := 147) (by decide) ?_
  refine a_aload_n C dX12_carriesOut_147 2 rfl ?_
  refine a_iload_n C dX12_carriesOut_148 1 rfl ?_
  refine a_callV C (k := 175) (As := [.int a]) (rest := []) (hop) (cwV 1 C.1.2.2.2.2 gX12_carriesOut_X12_donates rfl rfl rfl (by decide +kernel) ⟨Nat.le_of_ble_eq_true rfl, Nat.le_of_ble_eq_true rfl⟩) x_k175 (q := (RX12, TX12, 16)) rfl rfl rfl rfl (Nat.le_of_ble_eq_true rfl) dX12_carriesOut_149 ⟨Nat.le_of_ble_eq_true rfl, Nat.le_of_ble_eq_true rfl⟩ ?_
  exact a_iret C hlocks hr dX12_carriesOut_152 rfl rfl

set_option maxHeartbeats 1000000 in
set_option maxRecDepth 100000 in
theorem c_M_carriesOut_4 (l : Launch) (G : xG) (d : xd) (k9 : Nat) (hk9 : k9 < 177) (hv : d 182 k9 = nI 103) (a b : Int32) (ha : d 182 (k9 + 1) = a) (hb : d 182 (k9 + 2) = b) (r9 : Int32) (d9 : xd) (hop : x_M G l yX12_movesWick wsX12_movesWick 3 0 0 [.ref (x_b G + 175), .int a, .int b, .int 1] d (some (.int r9)) d9) : x_M G l yX12_carriesOut wsX12_carriesOut 6 0 0 [.ref (x_b G + 175), .int (nI k9)] d (some (.int r9)) d9 := by
  have iX12 : ∀ w ∈ u_ws RX12 TX12 16, w ∈ wsX12_carriesOut := by decide +kernel
  refine x_start (cc := cX12_carriesOut) (maxL := 4) (ret := (some .int)) (own := RX12) (by decide) rfl rfl (Nat.le_of_ble_eq_true rfl) (lst := [(0, .ref (x_b G + 175)), (1, .int (nI k9))]) rfl ?_
  intro p e s m args below meth c C hr hlocks
  refine a_aload_n C dX12_carriesOut_0 0 rfl ?_
  refine a_getR C (k := 175) iX12 x_k175 rfl (j := 15) rfl (by decide) (by decide +kernel) dX12_carriesOut_1 ?_
  refine a_iload_n C dX12_carriesOut_4 1 rfl ?_
  refine a_iconst C dX12_carriesOut_5 (v := 1) (by decide) ?_
  refine a_iadd C dX12_carriesOut_6 ?_
  refine a_ialdN C (k := 182) x_k182 (i := k9 + 1) (x_add2 (a := k9) (b := 1) rfl rfl) (by omega) (by first | decide | omega) dX12_carriesOut_7 ?_
  refine a_top (y := a) ha ?_
  refine a_istore_n C dX12_carriesOut_8 (by decide) (lst2 := [(2, .int a), (0, .ref (x_b G + 175)), (1, .int (nI k9))]) rfl ?_
  refine a_aload_n C dX12_carriesOut_9 1 rfl ?_
  refine a_getR C (k := 175) iX12 x_k175 rfl (j := 15) rfl (by decide) (by decide +kernel) dX12_carriesOut_10 ?_
  refine a_iload_n C dX12_carriesOut_13 2 rfl ?_
  refine a_iconst C dX12_carriesOut_14 (v := 2) (by decide) ?_
  refine a_iadd C dX12_carriesOut_15 ?_
  refine a_ialdN C (k := 182) x_k182 (i := k9 + 2) (x_add2 (a := k9) (b := 2) rfl rfl) (by omega) (by first | decide | omega) dX12_carriesOut_16 ?_
  refine a_top (y := b) hb ?_
  refine a_istore_n C dX12_carriesOut_17 (by decide) (lst2 := [(3, .int b), (2, .int a), (0, .ref (x_b G + 175)), (1, .int (nI k9))]) rfl ?_
  refine a_aload_n C dX12_carriesOut_18 2 rfl ?_
  refine a_getR C (k := 175) iX12 x_k175 rfl (j := 15) rfl (by decide) (by decide +kernel) dX12_carriesOut_19 ?_
  refine a_iload_n C dX12_carriesOut_22 3 rfl ?_
  refine a_ialdN C (k := 182) x_k182 (i := k9) rfl (by omega) (by first | decide | omega) dX12_carriesOut_23 ?_
  refine a_top (y := (nI 103)) hv ?_
  refine a_tableIn C dX12_carriesOut_24 (by decide +kernel) (by decide +kernel) (off := 129) (by decide +kernel) (tgt := 153) (by decide) ?_
  refine a_aload_n C dX12_carriesOut_153 2 rfl ?_
  refine a_iload_n C dX12_carriesOut_154 1 rfl ?_
  refine a_iload_n C dX12_carriesOut_155 0 rfl ?_
  refine a_iconst C dX12_carriesOut_156 (v := 1) (by decide) ?_
  refine a_callV C (k := 175) (As := [.int a, .int b, .int 1]) (rest := []) (hop) (cwV 3 C.1.2.2.2.2 gX12_carriesOut_X12_movesWick rfl rfl rfl (by decide +kernel) ⟨Nat.le_of_ble_eq_true rfl, Nat.le_of_ble_eq_true rfl⟩) x_k175 (q := (RX12, TX12, 16)) rfl rfl rfl rfl (Nat.le_of_ble_eq_true rfl) dX12_carriesOut_157 ⟨Nat.le_of_ble_eq_true rfl, Nat.le_of_ble_eq_true rfl⟩ ?_
  exact a_iret C hlocks hr dX12_carriesOut_160 rfl rfl

set_option maxHeartbeats 1000000 in
set_option maxRecDepth 100000 in
theorem c_M_carriesOut_5 (l : Launch) (G : xG) (d : xd) (k9 : Nat) (hk9 : k9 < 177) (hv : d 182 k9 = nI 98) (a b : Int32) (ha : d 182 (k9 + 1) = a) (hb : d 182 (k9 + 2) = b) (r9 : Int32) (d9 : xd) (hop : x_M G l yX12_sets wsX12_sets 3 0 0 [.ref (x_b G + 175), .int 22, .int a, .int b, .int 5] d (some (.int r9)) d9) : x_M G l yX12_carriesOut wsX12_carriesOut 6 0 0 [.ref (x_b G + 175), .int (nI k9)] d (some (.int r9)) d9 := by
  have iX12 : ∀ w ∈ u_ws RX12 TX12 16, w ∈ wsX12_carriesOut := by decide +kernel
  refine x_start (cc := cX12_carriesOut) (maxL := 4) (ret := (some .int)) (own := RX12) (by decide) rfl rfl (Nat.le_of_ble_eq_true rfl) (lst := [(0, .ref (x_b G + 175)), (1, .int (nI k9))]) rfl ?_
  intro p e s m args below meth c C hr hlocks
  refine a_aload_n C dX12_carriesOut_0 0 rfl ?_
  refine a_getR C (k := 175) iX12 x_k175 rfl (j := 15) rfl (by decide) (by decide +kernel) dX12_carriesOut_1 ?_
  refine a_iload_n C dX12_carriesOut_4 1 rfl ?_
  refine a_iconst C dX12_carriesOut_5 (v := 1) (by decide) ?_
  refine a_iadd C dX12_carriesOut_6 ?_
  refine a_ialdN C (k := 182) x_k182 (i := k9 + 1) (x_add2 (a := k9) (b := 1) rfl rfl) (by omega) (by first | decide | omega) dX12_carriesOut_7 ?_
  refine a_top (y := a) ha ?_
  refine a_istore_n C dX12_carriesOut_8 (by decide) (lst2 := [(2, .int a), (0, .ref (x_b G + 175)), (1, .int (nI k9))]) rfl ?_
  refine a_aload_n C dX12_carriesOut_9 1 rfl ?_
  refine a_getR C (k := 175) iX12 x_k175 rfl (j := 15) rfl (by decide) (by decide +kernel) dX12_carriesOut_10 ?_
  refine a_iload_n C dX12_carriesOut_13 2 rfl ?_
  refine a_iconst C dX12_carriesOut_14 (v := 2) (by decide) ?_
  refine a_iadd C dX12_carriesOut_15 ?_
  refine a_ialdN C (k := 182) x_k182 (i := k9 + 2) (x_add2 (a := k9) (b := 2) rfl rfl) (by omega) (by first | decide | omega) dX12_carriesOut_16 ?_
  refine a_top (y := b) hb ?_
  refine a_istore_n C dX12_carriesOut_17 (by decide) (lst2 := [(3, .int b), (2, .int a), (0, .ref (x_b G + 175)), (1, .int (nI k9))]) rfl ?_
  refine a_aload_n C dX12_carriesOut_18 2 rfl ?_
  refine a_getR C (k := 175) iX12 x_k175 rfl (j := 15) rfl (by decide) (by decide +kernel) dX12_carriesOut_19 ?_
  refine a_iload_n C dX12_carriesOut_22 3 rfl ?_
  refine a_ialdN C (k := 182) x_k182 (i := k9) rfl (by omega) (by first | decide | omega) dX12_carriesOut_23 ?_
  refine a_top (y := (nI 98)) hv ?_
  refine a_tableIn C dX12_carriesOut_24 (by decide +kernel) (by decide +kernel) (off := 137) (by decide +kernel) (tgt := 161) (by decide) ?_
  refine a_aload_n C dX12_carriesOut_161 2 rfl ?_
  refine a_bipush C dX12_carriesOut_162 (v := 22) (by decide) ?_
  refine a_iload_n C dX12_carriesOut_164 1 rfl ?_
  refine a_iload_n C dX12_carriesOut_165 0 rfl ?_
  refine a_iconst C dX12_carriesOut_166 (v := 5) (by decide) ?_
  refine a_callV C (k := 175) (As := [.int 22, .int a, .int b, .int 5]) (rest := []) (hop) (cwV 4 C.1.2.2.2.2 gX12_carriesOut_X12_sets rfl rfl rfl (by decide +kernel) ⟨Nat.le_of_ble_eq_true rfl, Nat.le_of_ble_eq_true rfl⟩) x_k175 (q := (RX12, TX12, 16)) rfl rfl rfl rfl (Nat.le_of_ble_eq_true rfl) dX12_carriesOut_167 ⟨Nat.le_of_ble_eq_true rfl, Nat.le_of_ble_eq_true rfl⟩ ?_
  exact a_iret C hlocks hr dX12_carriesOut_170 rfl rfl

set_option maxHeartbeats 1000000 in
set_option maxRecDepth 100000 in
theorem c_M_carriesOut_6 (l : Launch) (G : xG) (d : xd) (k9 : Nat) (hk9 : k9 < 177) (hv : d 182 k9 = nI 111) (a b : Int32) (ha : d 182 (k9 + 1) = a) (hb : d 182 (k9 + 2) = b) (r9 : Int32) (d9 : xd) (hop : x_M G l yX12_switches wsX12_switches 3 0 0 [.ref (x_b G + 175), .int a, .int 0] d (some (.int r9)) d9) : x_M G l yX12_carriesOut wsX12_carriesOut 6 0 0 [.ref (x_b G + 175), .int (nI k9)] d (some (.int r9)) d9 := by
  have iX12 : ∀ w ∈ u_ws RX12 TX12 16, w ∈ wsX12_carriesOut := by decide +kernel
  refine x_start (cc := cX12_carriesOut) (maxL := 4) (ret := (some .int)) (own := RX12) (by decide) rfl rfl (Nat.le_of_ble_eq_true rfl) (lst := [(0, .ref (x_b G + 175)), (1, .int (nI k9))]) rfl ?_
  intro p e s m args below meth c C hr hlocks
  refine a_aload_n C dX12_carriesOut_0 0 rfl ?_
  refine a_getR C (k := 175) iX12 x_k175 rfl (j := 15) rfl (by decide) (by decide +kernel) dX12_carriesOut_1 ?_
  refine a_iload_n C dX12_carriesOut_4 1 rfl ?_
  refine a_iconst C dX12_carriesOut_5 (v := 1) (by decide) ?_
  refine a_iadd C dX12_carriesOut_6 ?_
  refine a_ialdN C (k := 182) x_k182 (i := k9 + 1) (x_add2 (a := k9) (b := 1) rfl rfl) (by omega) (by first | decide | omega) dX12_carriesOut_7 ?_
  refine a_top (y := a) ha ?_
  refine a_istore_n C dX12_carriesOut_8 (by decide) (lst2 := [(2, .int a), (0, .ref (x_b G + 175)), (1, .int (nI k9))]) rfl ?_
  refine a_aload_n C dX12_carriesOut_9 1 rfl ?_
  refine a_getR C (k := 175) iX12 x_k175 rfl (j := 15) rfl (by decide) (by decide +kernel) dX12_carriesOut_10 ?_
  refine a_iload_n C dX12_carriesOut_13 2 rfl ?_
  refine a_iconst C dX12_carriesOut_14 (v := 2) (by decide) ?_
  refine a_iadd C dX12_carriesOut_15 ?_
  refine a_ialdN C (k := 182) x_k182 (i := k9 + 2) (x_add2 (a := k9) (b := 2) rfl rfl) (by omega) (by first | decide | omega) dX12_carriesOut_16 ?_
  refine a_top (y := b) hb ?_
  refine a_istore_n C dX12_carriesOut_17 (by decide) (lst2 := [(3, .int b), (2, .int a), (0, .ref (x_b G + 175)), (1, .int (nI k9))]) rfl ?_
  refine a_aload_n C dX12_carriesOut_18 2 rfl ?_
  refine a_getR C (k := 175) iX12 x_k175 rfl (j := 15) rfl (by decide) (by decide +kernel) dX12_carriesOut_19 ?_
  refine a_iload_n C dX12_carriesOut_22 3 rfl ?_
  refine a_ialdN C (k := 182) x_k182 (i := k9) rfl (by omega) (by first | decide | omega) dX12_carriesOut_23 ?_
  refine a_top (y := (nI 111)) hv ?_
  refine a_tableIn C dX12_carriesOut_24 (by decide +kernel) (by decide +kernel) (off := 147) (by decide +kernel) (tgt := 171) (by decide) ?_
  refine a_aload_n C dX12_carriesOut_171 2 rfl ?_
  refine a_iload_n C dX12_carriesOut_172 1 rfl ?_
  refine a_iconst C dX12_carriesOut_173 (v := 0) (by decide) ?_
  refine a_callV C (k := 175) (As := [.int a, .int 0]) (rest := []) (hop) (cwV 2 C.1.2.2.2.2 gX12_carriesOut_X12_switches rfl rfl rfl (by decide +kernel) ⟨Nat.le_of_ble_eq_true rfl, Nat.le_of_ble_eq_true rfl⟩) x_k175 (q := (RX12, TX12, 16)) rfl rfl rfl rfl (Nat.le_of_ble_eq_true rfl) dX12_carriesOut_174 ⟨Nat.le_of_ble_eq_true rfl, Nat.le_of_ble_eq_true rfl⟩ ?_
  exact a_iret C hlocks hr dX12_carriesOut_177 rfl rfl

set_option maxHeartbeats 1000000 in
set_option maxRecDepth 100000 in
theorem c_M_carriesOut_7 (l : Launch) (G : xG) (d : xd) (k9 : Nat) (hk9 : k9 < 177) (hv : d 182 k9 = nI 102) (a b : Int32) (ha : d 182 (k9 + 1) = a) (hb : d 182 (k9 + 2) = b) (r9 : Int32) (d9 : xd) (hop : x_M G l yX12_switches wsX12_switches 3 0 0 [.ref (x_b G + 175), .int a, .int 1] d (some (.int r9)) d9) : x_M G l yX12_carriesOut wsX12_carriesOut 6 0 0 [.ref (x_b G + 175), .int (nI k9)] d (some (.int r9)) d9 := by
  have iX12 : ∀ w ∈ u_ws RX12 TX12 16, w ∈ wsX12_carriesOut := by decide +kernel
  refine x_start (cc := cX12_carriesOut) (maxL := 4) (ret := (some .int)) (own := RX12) (by decide) rfl rfl (Nat.le_of_ble_eq_true rfl) (lst := [(0, .ref (x_b G + 175)), (1, .int (nI k9))]) rfl ?_
  intro p e s m args below meth c C hr hlocks
  refine a_aload_n C dX12_carriesOut_0 0 rfl ?_
  refine a_getR C (k := 175) iX12 x_k175 rfl (j := 15) rfl (by decide) (by decide +kernel) dX12_carriesOut_1 ?_
  refine a_iload_n C dX12_carriesOut_4 1 rfl ?_
  refine a_iconst C dX12_carriesOut_5 (v := 1) (by decide) ?_
  refine a_iadd C dX12_carriesOut_6 ?_
  refine a_ialdN C (k := 182) x_k182 (i := k9 + 1) (x_add2 (a := k9) (b := 1) rfl rfl) (by omega) (by first | decide | omega) dX12_carriesOut_7 ?_
  refine a_top (y := a) ha ?_
  refine a_istore_n C dX12_carriesOut_8 (by decide) (lst2 := [(2, .int a), (0, .ref (x_b G + 175)), (1, .int (nI k9))]) rfl ?_
  refine a_aload_n C dX12_carriesOut_9 1 rfl ?_
  refine a_getR C (k := 175) iX12 x_k175 rfl (j := 15) rfl (by decide) (by decide +kernel) dX12_carriesOut_10 ?_
  refine a_iload_n C dX12_carriesOut_13 2 rfl ?_
  refine a_iconst C dX12_carriesOut_14 (v := 2) (by decide) ?_
  refine a_iadd C dX12_carriesOut_15 ?_
  refine a_ialdN C (k := 182) x_k182 (i := k9 + 2) (x_add2 (a := k9) (b := 2) rfl rfl) (by omega) (by first | decide | omega) dX12_carriesOut_16 ?_
  refine a_top (y := b) hb ?_
  refine a_istore_n C dX12_carriesOut_17 (by decide) (lst2 := [(3, .int b), (2, .int a), (0, .ref (x_b G + 175)), (1, .int (nI k9))]) rfl ?_
  refine a_aload_n C dX12_carriesOut_18 2 rfl ?_
  refine a_getR C (k := 175) iX12 x_k175 rfl (j := 15) rfl (by decide) (by decide +kernel) dX12_carriesOut_19 ?_
  refine a_iload_n C dX12_carriesOut_22 3 rfl ?_
  refine a_ialdN C (k := 182) x_k182 (i := k9) rfl (by omega) (by first | decide | omega) dX12_carriesOut_23 ?_
  refine a_top (y := (nI 102)) hv ?_
  refine a_tableIn C dX12_carriesOut_24 (by decide +kernel) (by decide +kernel) (off := 154) (by decide +kernel) (tgt := 178) (by decide) ?_
  refine a_aload_n C dX12_carriesOut_178 2 rfl ?_
  refine a_iload_n C dX12_carriesOut_179 1 rfl ?_
  refine a_iconst C dX12_carriesOut_180 (v := 1) (by decide) ?_
  refine a_callV C (k := 175) (As := [.int a, .int 1]) (rest := []) (hop) (cwV 2 C.1.2.2.2.2 gX12_carriesOut_X12_switches rfl rfl rfl (by decide +kernel) ⟨Nat.le_of_ble_eq_true rfl, Nat.le_of_ble_eq_true rfl⟩) x_k175 (q := (RX12, TX12, 16)) rfl rfl rfl rfl (Nat.le_of_ble_eq_true rfl) dX12_carriesOut_181 ⟨Nat.le_of_ble_eq_true rfl, Nat.le_of_ble_eq_true rfl⟩ ?_
  exact a_iret C hlocks hr dX12_carriesOut_184 rfl rfl

set_option maxHeartbeats 1000000 in
set_option maxRecDepth 100000 in
theorem c_M_carriesOut_8 (l : Launch) (G : xG) (d : xd) (k9 : Nat) (hk9 : k9 < 177) (hv : d 182 k9 = nI 109) (a b : Int32) (ha : d 182 (k9 + 1) = a) (hb : d 182 (k9 + 2) = b) (r9 : Int32) (d9 : xd) (hop : x_M G l yX12_addsMoth wsX12_addsMoth 3 0 0 [.ref (x_b G + 175), .int a] d (some (.int r9)) d9) : x_M G l yX12_carriesOut wsX12_carriesOut 6 0 0 [.ref (x_b G + 175), .int (nI k9)] d (some (.int r9)) d9 := by
  have iX12 : ∀ w ∈ u_ws RX12 TX12 16, w ∈ wsX12_carriesOut := by decide +kernel
  refine x_start (cc := cX12_carriesOut) (maxL := 4) (ret := (some .int)) (own := RX12) (by decide) rfl rfl (Nat.le_of_ble_eq_true rfl) (lst := [(0, .ref (x_b G + 175)), (1, .int (nI k9))]) rfl ?_
  intro p e s m args below meth c C hr hlocks
  refine a_aload_n C dX12_carriesOut_0 0 rfl ?_
  refine a_getR C (k := 175) iX12 x_k175 rfl (j := 15) rfl (by decide) (by decide +kernel) dX12_carriesOut_1 ?_
  refine a_iload_n C dX12_carriesOut_4 1 rfl ?_
  refine a_iconst C dX12_carriesOut_5 (v := 1) (by decide) ?_
  refine a_iadd C dX12_carriesOut_6 ?_
  refine a_ialdN C (k := 182) x_k182 (i := k9 + 1) (x_add2 (a := k9) (b := 1) rfl rfl) (by omega) (by first | decide | omega) dX12_carriesOut_7 ?_
  refine a_top (y := a) ha ?_
  refine a_istore_n C dX12_carriesOut_8 (by decide) (lst2 := [(2, .int a), (0, .ref (x_b G + 175)), (1, .int (nI k9))]) rfl ?_
  refine a_aload_n C dX12_carriesOut_9 1 rfl ?_
  refine a_getR C (k := 175) iX12 x_k175 rfl (j := 15) rfl (by decide) (by decide +kernel) dX12_carriesOut_10 ?_
  refine a_iload_n C dX12_carriesOut_13 2 rfl ?_
  refine a_iconst C dX12_carriesOut_14 (v := 2) (by decide) ?_
  refine a_iadd C dX12_carriesOut_15 ?_
  refine a_ialdN C (k := 182) x_k182 (i := k9 + 2) (x_add2 (a := k9) (b := 2) rfl rfl) (by omega) (by first | decide | omega) dX12_carriesOut_16 ?_
  refine a_top (y := b) hb ?_
  refine a_istore_n C dX12_carriesOut_17 (by decide) (lst2 := [(3, .int b), (2, .int a), (0, .ref (x_b G + 175)), (1, .int (nI k9))]) rfl ?_
  refine a_aload_n C dX12_carriesOut_18 2 rfl ?_
  refine a_getR C (k := 175) iX12 x_k175 rfl (j := 15) rfl (by decide) (by decide +kernel) dX12_carriesOut_19 ?_
  refine a_iload_n C dX12_carriesOut_22 3 rfl ?_
  refine a_ialdN C (k := 182) x_k182 (i := k9) rfl (by omega) (by first | decide | omega) dX12_carriesOut_23 ?_
  refine a_top (y := (nI 109)) hv ?_
  refine a_tableIn C dX12_carriesOut_24 (by decide +kernel) (by decide +kernel) (off := 161) (by decide +kernel) (tgt := 185) (by decide) ?_
  refine a_aload_n C dX12_carriesOut_185 2 rfl ?_
  refine a_iload_n C dX12_carriesOut_186 1 rfl ?_
  refine a_callV C (k := 175) (As := [.int a]) (rest := []) (hop) (cwV 1 C.1.2.2.2.2 gX12_carriesOut_X12_addsMoth rfl rfl rfl (by decide +kernel) ⟨Nat.le_of_ble_eq_true rfl, Nat.le_of_ble_eq_true rfl⟩) x_k175 (q := (RX12, TX12, 16)) rfl rfl rfl rfl (Nat.le_of_ble_eq_true rfl) dX12_carriesOut_187 ⟨Nat.le_of_ble_eq_true rfl, Nat.le_of_ble_eq_true rfl⟩ ?_
  exact a_iret C hlocks hr dX12_carriesOut_190 rfl rfl

set_option maxHeartbeats 1000000 in
set_option maxRecDepth 100000 in
theorem c_M_carriesOut_9 (l : Launch) (G : xG) (d : xd) (k9 : Nat) (hk9 : k9 < 177) (hv : d 182 k9 = nI 99) (a b : Int32) (ha : d 182 (k9 + 1) = a) (hb : d 182 (k9 + 2) = b) (r9 : Int32) (d9 : xd) (hop : x_M G l yX12_proposes wsX12_proposes 4 0 0 [.ref (x_b G + 175), .int a] d (some (.int r9)) d9) : x_M G l yX12_carriesOut wsX12_carriesOut 6 0 0 [.ref (x_b G + 175), .int (nI k9)] d (some (.int r9)) d9 := by
  have iX12 : ∀ w ∈ u_ws RX12 TX12 16, w ∈ wsX12_carriesOut := by decide +kernel
  refine x_start (cc := cX12_carriesOut) (maxL := 4) (ret := (some .int)) (own := RX12) (by decide) rfl rfl (Nat.le_of_ble_eq_true rfl) (lst := [(0, .ref (x_b G + 175)), (1, .int (nI k9))]) rfl ?_
  intro p e s m args below meth c C hr hlocks
  refine a_aload_n C dX12_carriesOut_0 0 rfl ?_
  refine a_getR C (k := 175) iX12 x_k175 rfl (j := 15) rfl (by decide) (by decide +kernel) dX12_carriesOut_1 ?_
  refine a_iload_n C dX12_carriesOut_4 1 rfl ?_
  refine a_iconst C dX12_carriesOut_5 (v := 1) (by decide) ?_
  refine a_iadd C dX12_carriesOut_6 ?_
  refine a_ialdN C (k := 182) x_k182 (i := k9 + 1) (x_add2 (a := k9) (b := 1) rfl rfl) (by omega) (by first | decide | omega) dX12_carriesOut_7 ?_
  refine a_top (y := a) ha ?_
  refine a_istore_n C dX12_carriesOut_8 (by decide) (lst2 := [(2, .int a), (0, .ref (x_b G + 175)), (1, .int (nI k9))]) rfl ?_
  refine a_aload_n C dX12_carriesOut_9 1 rfl ?_
  refine a_getR C (k := 175) iX12 x_k175 rfl (j := 15) rfl (by decide) (by decide +kernel) dX12_carriesOut_10 ?_
  refine a_iload_n C dX12_carriesOut_13 2 rfl ?_
  refine a_iconst C dX12_carriesOut_14 (v := 2) (by decide) ?_
  refine a_iadd C dX12_carriesOut_15 ?_
  refine a_ialdN C (k := 182) x_k182 (i := k9 + 2) (x_add2 (a := k9) (b := 2) rfl rfl) (by omega) (by first | decide | omega) dX12_carriesOut_16 ?_
  refine a_top (y := b) hb ?_
  refine a_istore_n C dX12_carriesOut_17 (by decide) (lst2 := [(3, .int b), (2, .int a), (0, .ref (x_b G + 175)), (1, .int (nI k9))]) rfl ?_
  refine a_aload_n C dX12_carriesOut_18 2 rfl ?_
  refine a_getR C (k := 175) iX12 x_k175 rfl (j := 15) rfl (by decide) (by decide +kernel) dX12_carriesOut_19 ?_
  refine a_iload_n C dX12_carriesOut_22 3 rfl ?_
  refine a_ialdN C (k := 182) x_k182 (i := k9) rfl (by omega) (by first | decide | omega) dX12_carriesOut_23 ?_
  refine a_top (y := (nI 99)) hv ?_
  refine a_tableIn C dX12_carriesOut_24 (by decide +kernel) (by decide +kernel) (off := 167) (by decide +kernel) (tgt := 191) (by decide) ?_
  refine a_aload_n C dX12_carriesOut_191 2 rfl ?_
  refine a_iload_n C dX12_carriesOut_192 1 rfl ?_
  refine a_callV C (k := 175) (As := [.int a]) (rest := []) (hop) (cwV 1 C.1.2.2.2.2 gX12_carriesOut_X12_proposes rfl rfl rfl (by decide +kernel) ⟨Nat.le_of_ble_eq_true rfl, Nat.le_of_ble_eq_true rfl⟩) x_k175 (q := (RX12, TX12, 16)) rfl rfl rfl rfl (Nat.le_of_ble_eq_true rfl) dX12_carriesOut_193 ⟨Nat.le_of_ble_eq_true rfl, Nat.le_of_ble_eq_true rfl⟩ ?_
  exact a_iret C hlocks hr dX12_carriesOut_196 rfl rfl

set_option maxHeartbeats 1000000 in
set_option maxRecDepth 100000 in
theorem c_M_carriesOut_10 (l : Launch) (G : xG) (d : xd) (k9 : Nat) (hk9 : k9 < 177) (hv : d 182 k9 = nI 110) (a b : Int32) (ha : d 182 (k9 + 1) = a) (hb : d 182 (k9 + 2) = b) (r9 : Int32) (d9 : xd) (hop : x_M G l yX12_passesNight wsX12_passesNight 4 0 0 [.ref (x_b G + 175)] d (some (.int r9)) d9) : x_M G l yX12_carriesOut wsX12_carriesOut 6 0 0 [.ref (x_b G + 175), .int (nI k9)] d (some (.int r9)) d9 := by
  have iX12 : ∀ w ∈ u_ws RX12 TX12 16, w ∈ wsX12_carriesOut := by decide +kernel
  refine x_start (cc := cX12_carriesOut) (maxL := 4) (ret := (some .int)) (own := RX12) (by decide) rfl rfl (Nat.le_of_ble_eq_true rfl) (lst := [(0, .ref (x_b G + 175)), (1, .int (nI k9))]) rfl ?_
  intro p e s m args below meth c C hr hlocks
  refine a_aload_n C dX12_carriesOut_0 0 rfl ?_
  refine a_getR C (k := 175) iX12 x_k175 rfl (j := 15) rfl (by decide) (by decide +kernel) dX12_carriesOut_1 ?_
  refine a_iload_n C dX12_carriesOut_4 1 rfl ?_
  refine a_iconst C dX12_carriesOut_5 (v := 1) (by decide) ?_
  refine a_iadd C dX12_carriesOut_6 ?_
  refine a_ialdN C (k := 182) x_k182 (i := k9 + 1) (x_add2 (a := k9) (b := 1) rfl rfl) (by omega) (by first | decide | omega) dX12_carriesOut_7 ?_
  refine a_top (y := a) ha ?_
  refine a_istore_n C dX12_carriesOut_8 (by decide) (lst2 := [(2, .int a), (0, .ref (x_b G + 175)), (1, .int (nI k9))]) rfl ?_
  refine a_aload_n C dX12_carriesOut_9 1 rfl ?_
  refine a_getR C (k := 175) iX12 x_k175 rfl (j := 15) rfl (by decide) (by decide +kernel) dX12_carriesOut_10 ?_
  refine a_iload_n C dX12_carriesOut_13 2 rfl ?_
  refine a_iconst C dX12_carriesOut_14 (v := 2) (by decide) ?_
  refine a_iadd C dX12_carriesOut_15 ?_
  refine a_ialdN C (k := 182) x_k182 (i := k9 + 2) (x_add2 (a := k9) (b := 2) rfl rfl) (by omega) (by first | decide | omega) dX12_carriesOut_16 ?_
  refine a_top (y := b) hb ?_
  refine a_istore_n C dX12_carriesOut_17 (by decide) (lst2 := [(3, .int b), (2, .int a), (0, .ref (x_b G + 175)), (1, .int (nI k9))]) rfl ?_
  refine a_aload_n C dX12_carriesOut_18 2 rfl ?_
  refine a_getR C (k := 175) iX12 x_k175 rfl (j := 15) rfl (by decide) (by decide +kernel) dX12_carriesOut_19 ?_
  refine a_iload_n C dX12_carriesOut_22 3 rfl ?_
  refine a_ialdN C (k := 182) x_k182 (i := k9) rfl (by omega) (by first | decide | omega) dX12_carriesOut_23 ?_
  refine a_top (y := (nI 110)) hv ?_
  refine a_tableIn C dX12_carriesOut_24 (by decide +kernel) (by decide +kernel) (off := 173) (by decide +kernel) (tgt := 197) (by decide) ?_
  refine a_aload_n C dX12_carriesOut_197 2 rfl ?_
  refine a_callV C (k := 175) (As := []) (rest := []) (hop) (cwV 0 C.1.2.2.2.2 gX12_carriesOut_X12_passesNight rfl rfl rfl (by decide +kernel) ⟨Nat.le_of_ble_eq_true rfl, Nat.le_of_ble_eq_true rfl⟩) x_k175 (q := (RX12, TX12, 16)) rfl rfl rfl rfl (Nat.le_of_ble_eq_true rfl) dX12_carriesOut_198 ⟨Nat.le_of_ble_eq_true rfl, Nat.le_of_ble_eq_true rfl⟩ ?_
  exact a_iret C hlocks hr dX12_carriesOut_201 rfl rfl

set_option maxHeartbeats 1000000 in
set_option maxRecDepth 100000 in
theorem c_M_carriesOut_11 (l : Launch) (G : xG) (d : xd) (k9 : Nat) (hk9 : k9 < 177) (hv : d 182 k9 = nI 112) (a b : Int32) (ha : d 182 (k9 + 1) = a) (hb : d 182 (k9 + 2) = b) (r9 : Int32) (d9 : xd) (hop : x_M G l yX12_pays wsX12_pays 5 0 0 [.ref (x_b G + 175)] d (some (.int r9)) d9) : x_M G l yX12_carriesOut wsX12_carriesOut 6 0 0 [.ref (x_b G + 175), .int (nI k9)] d (some (.int r9)) d9 := by
  have iX12 : ∀ w ∈ u_ws RX12 TX12 16, w ∈ wsX12_carriesOut := by decide +kernel
  refine x_start (cc := cX12_carriesOut) (maxL := 4) (ret := (some .int)) (own := RX12) (by decide) rfl rfl (Nat.le_of_ble_eq_true rfl) (lst := [(0, .ref (x_b G + 175)), (1, .int (nI k9))]) rfl ?_
  intro p e s m args below meth c C hr hlocks
  refine a_aload_n C dX12_carriesOut_0 0 rfl ?_
  refine a_getR C (k := 175) iX12 x_k175 rfl (j := 15) rfl (by decide) (by decide +kernel) dX12_carriesOut_1 ?_
  refine a_iload_n C dX12_carriesOut_4 1 rfl ?_
  refine a_iconst C dX12_carriesOut_5 (v := 1) (by decide) ?_
  refine a_iadd C dX12_carriesOut_6 ?_
  refine a_ialdN C (k := 182) x_k182 (i := k9 + 1) (x_add2 (a := k9) (b := 1) rfl rfl) (by omega) (by first | decide | omega) dX12_carriesOut_7 ?_
  refine a_top (y := a) ha ?_
  refine a_istore_n C dX12_carriesOut_8 (by decide) (lst2 := [(2, .int a), (0, .ref (x_b G + 175)), (1, .int (nI k9))]) rfl ?_
  refine a_aload_n C dX12_carriesOut_9 1 rfl ?_
  refine a_getR C (k := 175) iX12 x_k175 rfl (j := 15) rfl (by decide) (by decide +kernel) dX12_carriesOut_10 ?_
  refine a_iload_n C dX12_carriesOut_13 2 rfl ?_
  refine a_iconst C dX12_carriesOut_14 (v := 2) (by decide) ?_
  refine a_iadd C dX12_carriesOut_15 ?_
  refine a_ialdN C (k := 182) x_k182 (i := k9 + 2) (x_add2 (a := k9) (b := 2) rfl rfl) (by omega) (by first | decide | omega) dX12_carriesOut_16 ?_
  refine a_top (y := b) hb ?_
  refine a_istore_n C dX12_carriesOut_17 (by decide) (lst2 := [(3, .int b), (2, .int a), (0, .ref (x_b G + 175)), (1, .int (nI k9))]) rfl ?_
  refine a_aload_n C dX12_carriesOut_18 2 rfl ?_
  refine a_getR C (k := 175) iX12 x_k175 rfl (j := 15) rfl (by decide) (by decide +kernel) dX12_carriesOut_19 ?_
  refine a_iload_n C dX12_carriesOut_22 3 rfl ?_
  refine a_ialdN C (k := 182) x_k182 (i := k9) rfl (by omega) (by first | decide | omega) dX12_carriesOut_23 ?_
  refine a_top (y := (nI 112)) hv ?_
  refine a_tableIn C dX12_carriesOut_24 (by decide +kernel) (by decide +kernel) (off := 178) (by decide +kernel) (tgt := 202) (by decide) ?_
  refine a_aload_n C dX12_carriesOut_202 2 rfl ?_
  refine a_callV C (k := 175) (As := []) (rest := []) (hop) (cwV 0 C.1.2.2.2.2 gX12_carriesOut_X12_pays rfl rfl rfl (by decide +kernel) ⟨Nat.le_of_ble_eq_true rfl, Nat.le_of_ble_eq_true rfl⟩) x_k175 (q := (RX12, TX12, 16)) rfl rfl rfl rfl (Nat.le_of_ble_eq_true rfl) dX12_carriesOut_203 ⟨Nat.le_of_ble_eq_true rfl, Nat.le_of_ble_eq_true rfl⟩ ?_
  exact a_iret C hlocks hr dX12_carriesOut_206 rfl rfl

set_option maxHeartbeats 1000000 in
set_option maxRecDepth 100000 in
theorem c_M_carriesOut_12 (l : Launch) (G : xG) (d : xd) (k9 : Nat) (hk9 : k9 < 177) (hv : d 182 k9 = nI 117) (a b : Int32) (ha : d 182 (k9 + 1) = a) (hb : d 182 (k9 + 2) = b) (r9 : Int32) (d9 : xd) (hop : x_M G l yX12_buys wsX12_buys 3 0 0 [.ref (x_b G + 175), .int a, .int b] d (some (.int r9)) d9) : x_M G l yX12_carriesOut wsX12_carriesOut 6 0 0 [.ref (x_b G + 175), .int (nI k9)] d (some (.int r9)) d9 := by
  have iX12 : ∀ w ∈ u_ws RX12 TX12 16, w ∈ wsX12_carriesOut := by decide +kernel
  refine x_start (cc := cX12_carriesOut) (maxL := 4) (ret := (some .int)) (own := RX12) (by decide) rfl rfl (Nat.le_of_ble_eq_true rfl) (lst := [(0, .ref (x_b G + 175)), (1, .int (nI k9))]) rfl ?_
  intro p e s m args below meth c C hr hlocks
  refine a_aload_n C dX12_carriesOut_0 0 rfl ?_
  refine a_getR C (k := 175) iX12 x_k175 rfl (j := 15) rfl (by decide) (by decide +kernel) dX12_carriesOut_1 ?_
  refine a_iload_n C dX12_carriesOut_4 1 rfl ?_
  refine a_iconst C dX12_carriesOut_5 (v := 1) (by decide) ?_
  refine a_iadd C dX12_carriesOut_6 ?_
  refine a_ialdN C (k := 182) x_k182 (i := k9 + 1) (x_add2 (a := k9) (b := 1) rfl rfl) (by omega) (by first | decide | omega) dX12_carriesOut_7 ?_
  refine a_top (y := a) ha ?_
  refine a_istore_n C dX12_carriesOut_8 (by decide) (lst2 := [(2, .int a), (0, .ref (x_b G + 175)), (1, .int (nI k9))]) rfl ?_
  refine a_aload_n C dX12_carriesOut_9 1 rfl ?_
  refine a_getR C (k := 175) iX12 x_k175 rfl (j := 15) rfl (by decide) (by decide +kernel) dX12_carriesOut_10 ?_
  refine a_iload_n C dX12_carriesOut_13 2 rfl ?_
  refine a_iconst C dX12_carriesOut_14 (v := 2) (by decide) ?_
  refine a_iadd C dX12_carriesOut_15 ?_
  refine a_ialdN C (k := 182) x_k182 (i := k9 + 2) (x_add2 (a := k9) (b := 2) rfl rfl) (by omega) (by first | decide | omega) dX12_carriesOut_16 ?_
  refine a_top (y := b) hb ?_
  refine a_istore_n C dX12_carriesOut_17 (by decide) (lst2 := [(3, .int b), (2, .int a), (0, .ref (x_b G + 175)), (1, .int (nI k9))]) rfl ?_
  refine a_aload_n C dX12_carriesOut_18 2 rfl ?_
  refine a_getR C (k := 175) iX12 x_k175 rfl (j := 15) rfl (by decide) (by decide +kernel) dX12_carriesOut_19 ?_
  refine a_iload_n C dX12_carriesOut_22 3 rfl ?_
  refine a_ialdN C (k := 182) x_k182 (i := k9) rfl (by omega) (by first | decide | omega) dX12_carriesOut_23 ?_
  refine a_top (y := (nI 117)) hv ?_
  refine a_tableIn C dX12_carriesOut_24 (by decide +kernel) (by decide +kernel) (off := 183) (by decide +kernel) (tgt := 207) (by decide) ?_
  refine a_aload_n C dX12_carriesOut_207 2 rfl ?_
  refine a_iload_n C dX12_carriesOut_208 1 rfl ?_
  refine a_iload_n C dX12_carriesOut_209 0 rfl ?_
  refine a_callV C (k := 175) (As := [.int a, .int b]) (rest := []) (hop) (cwV 2 C.1.2.2.2.2 gX12_carriesOut_X12_buys rfl rfl rfl (by decide +kernel) ⟨Nat.le_of_ble_eq_true rfl, Nat.le_of_ble_eq_true rfl⟩) x_k175 (q := (RX12, TX12, 16)) rfl rfl rfl rfl (Nat.le_of_ble_eq_true rfl) dX12_carriesOut_210 ⟨Nat.le_of_ble_eq_true rfl, Nat.le_of_ble_eq_true rfl⟩ ?_
  exact a_iret C hlocks hr dX12_carriesOut_213 rfl rfl

