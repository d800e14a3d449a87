theorem x_isS_le {o : Nat} (h : x_isS o) : 1 ≤ o ∧ o + 14 ≤ 157 := by
  rcases h with rfl | rfl | rfl | ⟨i, hi, rfl⟩ <;> omega
theorem f_rdy_cong {d d2 : xd} {o i : Nat} (h4 : d2 (o + 4) i = d (o + 4) i) (h5 : d2 (o + 5) i = d (o + 5) i) (h6 : d2 (o + 6) i = d (o + 6) i) (h7 : d2 (o + 7) i = d (o + 7) i) : f_rdy d2 o i = f_rdy d o i := by
  unfold f_rdy
  rw [h4, h5, h6, h7]
/-- who burns, the oil and the wick behind the first step -/
def f_nB (d : xd) (o : Nat) : Nat → Int32 := fun j => x_bi (f_rdy d o j = true)
def f_nO (d : xd) (o : Nat) : Nat → Int32 := fun j => if f_rdy d o j = true then d (o + 6) j - d (o + 4) j else d (o + 6) j
def f_nW (d : xd) (o : Nat) : Nat → Int32 := fun j => if f_rdy d o j = true then d (o + 7) j - 1 else d (o + 7) j
def f_ob (d : xd) (o : Nat) : Nat → Int32
  | 0 => d (o + 13) 5
  | i + 1 => if f_rdy d o i = true then f_ob d o i + d (o + 4) i else f_ob d o i
def f_wb (d : xd) (o : Nat) : Nat → Int32
  | 0 => d (o + 13) 8
  | i + 1 => if f_rdy d o i = true then f_wb d o i + 1 else f_wb d o i
def f_cb (d : xd) (o : Nat) : Nat → Int32
  | 0 => 0
  | i + 1 => if f_rdy d o i = true then f_cb d o i + 1 else f_cb d o i
def f_brn (d : xd) (o i : Nat) : xd := x_p (x_p (x_r (x_r (x_r d 158 (f_fill (f_nB d o) (d 158) i)) (o + 6) (f_fill (f_nO d o) (d (o + 6)) i)) (o + 7) (f_fill (f_nW d o) (d (o + 7)) i)) (o + 13) 5 (f_ob d o i)) (o + 13) 8 (f_wb d o i)
theorem f_brn_at (d : xd) {o i k : Nat} (ho : 1 ≤ o ∧ o + 14 ≤ 157) (h : k ≠ o + 13) : f_brn d o i k i = d k i := by
  unfold f_brn
  rw [x_p_ne h, x_p_ne h]
  by_cases h1 : k = o + 7
  · subst h1; rw [x_r_same, f_fill_at]
  · rw [x_r_ne2 h1]
    by_cases h2 : k = o + 6
    · subst h2; rw [x_r_same, f_fill_at]
    · rw [x_r_ne2 h2]
      by_cases h3 : k = 158
      · subst h3; rw [x_r_same, f_fill_at]
      · rw [x_r_ne2 h3]
theorem f_brn_out {d : xd} {o i k : Nat} (h1 : k ≠ 158) (h2 : k ≠ o + 6) (h3 : k ≠ o + 7) (h4 : k ≠ o + 13) : f_brn d o i k = d k := by
  unfold f_brn
  rw [x_p_ne h4, x_p_ne h4, x_r_ne2 h3, x_r_ne2 h2, x_r_ne2 h1]
theorem f_brn_rdy {d : xd} {o i : Nat} (ho : 1 ≤ o ∧ o + 14 ≤ 157) : f_rdy (f_brn d o i) o i = f_rdy d o i :=
  f_rdy_cong (f_brn_at d ho (by omega)) (f_brn_at d ho (by omega)) (f_brn_at d ho (by omega)) (f_brn_at d ho (by omega))
theorem f_brn_5 (d : xd) (o i : Nat) : f_brn d o i (o + 13) 5 = f_ob d o i := by
  unfold f_brn
  rw [x_p_row (by omega), x_p_at]
theorem f_brn_8 (d : xd) (o i : Nat) : f_brn d o i (o + 13) 8 = f_wb d o i := by
  unfold f_brn
  rw [x_p_at]
theorem x_p_id (d : xd) (k j : Nat) : x_p d k j (d k j) = d := by
  funext q w
  unfold x_p x_r
  by_cases h : q = k
  · subst h
    rw [if_pos rfl]
    simp only [upd]
    by_cases h2 : w = j
    · rw [if_pos h2, h2]
    · rw [if_neg h2]
  · rw [if_neg h]
theorem f_brn_0 (d : xd) (o : Nat) (ho : 1 ≤ o ∧ o + 14 ≤ 157) : d = f_brn d o 0 := by
  unfold f_brn
  rw [f_fill_0, f_fill_0, f_fill_0, ← x_r_id3]
  show d = x_p (x_p d (o + 13) 5 (d (o + 13) 5)) (o + 13) 8 (d (o + 13) 8)
  rw [x_p_id, x_p_id]
theorem x_burn {d : xd} {k1 k2 k3 k4 i : Nat} {B O W B2 O2 W2 : Nat → Int32} {ob wb ob2 wb2 b o2 w2 : Int32} (e12 : k1 ≠ k2) (e13 : k1 ≠ k3) (e14 : k1 ≠ k4) (e23 : k2 ≠ k3) (e24 : k2 ≠ k4) (e34 : k3 ≠ k4) (h1 : upd B i b = B2) (h2 : upd O i o2 = O2) (h3 : upd W i w2 = W2) :
    x_p (x_p (x_p (x_p (x_p (x_p (x_p (x_r (x_r (x_r d k1 B) k2 O) k3 W) k4 5 ob) k4 8 wb) k1 i b) k2 i o2) k3 i w2) k4 5 ob2) k4 8 wb2 = x_p (x_p (x_r (x_r (x_r d k1 B2) k2 O2) k3 W2) k4 5 ob2) k4 8 wb2 := by
  subst h1; subst h2; subst h3
  funext q
  by_cases a : q = k1
  · subst a; simp [x_p, x_r, e12, e13, e14]
  · by_cases b : q = k2
    · subst b; simp [x_p, x_r, a, e23, e24]
    · by_cases c : q = k3
      · subst c; simp [x_p, x_r, a, b, e34]
      · by_cases z : q = k4
        · subst z
          funext j
          simp only [x_p, x_r, a, b, c, if_false, if_true, upd]
          by_cases j8 : j = 8
          · simp [j8]
          · by_cases j5 : j = 5
            · simp [j5]
            · simp [j8, j5]
        · simp [x_p, x_r, a, b, c, z]
theorem x_burn0 {d : xd} {k1 k2 k3 k4 i : Nat} {B O W B2 : Nat → Int32} {ob wb b : Int32} (e12 : k1 ≠ k2) (e13 : k1 ≠ k3) (e14 : k1 ≠ k4) (h1 : upd B i b = B2) :
    x_p (x_p (x_p (x_r (x_r (x_r d k1 B) k2 O) k3 W) k4 5 ob) k4 8 wb) k1 i b = x_p (x_p (x_r (x_r (x_r d k1 B2) k2 O) k3 W) k4 5 ob) k4 8 wb := by
  subst h1
  funext q
  by_cases a : q = k1
  · subst a; simp [x_p, x_r, e12, e13, e14]
  · simp [x_p, x_r, a, Ne.symm e14]

set_option maxHeartbeats 4000000 in
set_option maxRecDepth 100000 in
theorem c_X7_burnLamps (l : Launch) (G : xG) (d : xd) (o n : Nat) (ho : x_isS o) (hn : d (o + 1) 0 = nI n) (h8 : n ≤ 8) : x_M G l yX7_burnLamps wsX7_burnLamps 2 0 0 [.ref (x_b G + 157), .ref (x_b G + (o + 1)), .ref (x_b G + (o + 13))] d (some (.int (f_cb d o n))) (f_brn d o n) := by
  have hap := x_isS_le ho
  have iX2 : ∀ w ∈ u_ws RX2 TX2 10, w ∈ wsX7_burnLamps := by decide +kernel
  have iX5 : ∀ w ∈ u_ws RX5 TX5 8, w ∈ wsX7_burnLamps := by decide +kernel
  have iX7 : ∀ w ∈ u_ws RX7 TX7 1, w ∈ wsX7_burnLamps := by decide +kernel
  refine x_start (cc := cX7_burnLamps) (maxL := 5) (ret := (some .int)) (own := RX7) (by decide) rfl rfl (Nat.le_of_ble_eq_true rfl) (lst := [(0, .ref (x_b G + 157)), (1, .ref (x_b G + (o + 1))), (2, .ref (x_b G + (o + 13)))]) rfl ?_
  intro p e s m args below meth c C hr hlocks
  refine a_iconst C dX7_burnLamps_0 (v := 0) (by decide) ?_
  refine a_istore_n C dX7_burnLamps_1 (by decide) (lst2 := [(3, .int 0), (0, .ref (x_b G + 157)), (1, .ref (x_b G + (o + 1))), (2, .ref (x_b G + (o + 13)))]) rfl ?_
  refine a_iconst C dX7_burnLamps_2 (v := 0) (by decide) ?_
  refine a_istore C dX7_burnLamps_3 (by decide) (lst2 := [(4, .int 0), (3, .int 0), (0, .ref (x_b G + 157)), (1, .ref (x_b G + (o + 1))), (2, .ref (x_b G + (o + 13)))]) rfl ?_
  have L5 : ∀ (j i : Nat), i ≤ n → n < i + j → Ab G p l e (x_rm 2 0 0) s m args below meth c 5 0 0 (MQ below (x_Q G (some (.int (f_cb d o n))) (f_brn d o n)) args s 0 0 (x_A G)) 5 [(4, .int (nI i)), (3, .int (f_cb d o i)), (0, .ref (x_b G + 157)), (1, .ref (x_b G + (o + 1))), (2, .ref (x_b G + (o + 13)))] [] (f_brn d o i) := by
    intro j
    induction j with
    | zero => intro i h1 h2; exact absurd h2 (by omega)
    | succ j ih =>
      intro i hi hj 
      refine a_iload C dX7_burnLamps_5 0 rfl ?_
      refine a_aload_n C dX7_burnLamps_7 3 rfl ?_
      refine a_getI C (k := (o + 1)) iX5 (x_sS1 ho) rfl (j := 0) rfl (by decide) (by decide +kernel) dX7_burnLamps_8 ?_
      refine a_top (y := (nI n)) (by rw [f_brn_out (by omega) (by omega) (by omega) (by omega)]; exact hn) ?_
      refine a_icmp_ge C dX7_burnLamps_11 (tgt := 100) (by decide) (fun h11 => ?_) (fun h11 => ?_)
      · skip
        have e := x_ge h11 hi (by omega)
        subst e
        refine a_iload_n C dX7_burnLamps_100 1 rfl ?_
        exact a_iret C hlocks hr dX7_burnLamps_101 rfl rfl
      · skip
        have hlt := x_nge h11 hi
        refine a_aload_n C dX7_burnLamps_14 2 rfl ?_
        refine a_getR C (k := 157) iX7 x_k157 rfl (j := 0) rfl (by decide) (by decide +kernel) dX7_burnLamps_15 ?_
        refine a_iload C dX7_burnLamps_18 0 rfl ?_
        refine a_aload_n C dX7_burnLamps_20 3 rfl ?_
        refine a_iload C dX7_burnLamps_21 0 rfl ?_
        refine a_callV C (k := (o + 1)) (As := [.int (nI i)]) (rest := [.int (nI i), .ref (x_b G + 158)]) (c_X5_readyToBurn l G (f_brn d o i) o i ho (by omega)) (cwV 1 C.1.2.2.2.2 gX7_burnLamps_X5_readyToBurn rfl rfl rfl (by decide +kernel) ⟨Nat.le_of_ble_eq_true rfl, Nat.le_of_ble_eq_true rfl⟩) (x_sS1 ho) (q := (RX5, TX5, 8)) rfl rfl rfl rfl (Nat.le_of_ble_eq_true rfl) dX7_burnLamps_23 ⟨Nat.le_of_ble_eq_true rfl, Nat.le_of_ble_eq_true rfl⟩ ?_
        refine a_top (y := (x_bi (f_rdy d o i = true))) (by rw [f_brn_rdy hap]) ?_
        refine a_zastN C (k := 158) x_k158 (i := i) rfl (by omega) (by first | decide | omega) (x_bi_01 _) dX7_burnLamps_26 ?_
        refine a_aload_n C dX7_burnLamps_27 2 rfl ?_
        refine a_getR C (k := 157) iX7 x_k157 rfl (j := 0) rfl (by decide) (by decide +kernel) dX7_burnLamps_28 ?_
        refine a_iload C dX7_burnLamps_31 0 rfl ?_
        refine a_zaldN C (k := 158) x_k158 (i := i) rfl (by omega) (by first | decide | omega) dX7_burnLamps_33 ?_
        refine a_top (y := (x_bz ((x_bi (f_rdy d o i = true))))) (by rw [x_p_at]) ?_
        refine a_top (y := (x_bi (f_rdy d o i = true))) (x_bz_bi _) ?_
        refine a_if_eq C dX7_burnLamps_34 (tgt := 94) (by decide) (fun h34 => ?_) (fun h34 => ?_)
        · skip
          refine a_iinc C dX7_burnLamps_94 0 rfl (v := (nI (i + 1))) (x_inc i) (by decide) (lst2 := [(4, .int (nI (i + 1))), (3, .int (f_cb d o i)), (0, .ref (x_b G + 157)), (1, .ref (x_b G + (o + 1))), (2, .ref (x_b G + (o + 13)))]) rfl ?_
          refine a_goto C dX7_burnLamps_97 (tgt := 5) (by decide) ?_
          refine a_sub (lst2 := [(4, .int (nI (i + 1))), (3, .int (f_cb d o i)), (0, .ref (x_b G + 157)), (1, .ref (x_b G + (o + 1))), (2, .ref (x_b G + (o + 13)))]) [0, 1, 2, 3, 4] rfl ?_
          refine a_to (lst2 := [(4, .int (nI ((i + 1)))), (3, .int (f_cb d o ((i + 1)))), (0, .ref (x_b G + 157)), (1, .ref (x_b G + (o + 1))), (2, .ref (x_b G + (o + 13)))]) (st2 := []) (d2 := f_brn d o ((i + 1))) (by rw [f_cb, if_neg (x_bi_z h34)]) rfl (by have q := x_bi_z h34; unfold f_brn; rw [f_ob, f_wb, if_neg q, if_neg q, ← f_fill_skip (f := f_nO d o) (i := i) (if_neg q), ← f_fill_skip (f := f_nW d o) (i := i) (if_neg q)]; exact (x_burn0 (by omega) (by omega) (by omega) (f_fill_s _ _ i)).symm) ?_
          exact ih (i + 1) (by omega) (by omega) 
        · skip
          refine a_aload_n C dX7_burnLamps_37 3 rfl ?_
          refine a_getR C (k := (o + 1)) iX5 (x_sS1 ho) rfl (j := 5) rfl (by decide) (by decide +kernel) dX7_burnLamps_38 ?_
          refine a_iload C dX7_burnLamps_41 0 rfl ?_
          refine a_dup2 C dX7_burnLamps_43 rfl rfl ?_
          refine a_ialdN C (k := (o + 6)) (x_sS6 ho) (i := i) rfl (by omega) (by first | decide | omega) dX7_burnLamps_44 ?_
          refine a_top (y := ((f_brn d o i) (o + 6) i)) (by rw [x_p_ne (by omega)]) ?_
          refine a_top (y := (d (o + 6) i)) (f_brn_at d hap (by omega)) ?_
          refine a_aload_n C dX7_burnLamps_45 3 rfl ?_
          refine a_getR C (k := (o + 1)) iX5 (x_sS1 ho) rfl (j := 3) rfl (by decide) (by decide +kernel) dX7_burnLamps_46 ?_
          refine a_iload C dX7_burnLamps_49 0 rfl ?_
          refine a_ialdN C (k := (o + 4)) (x_sS4 ho) (i := i) rfl (by omega) (by first | decide | omega) dX7_burnLamps_51 ?_
          refine a_top (y := ((f_brn d o i) (o + 4) i)) (by rw [x_p_ne (by omega)]) ?_
          refine a_top (y := (d (o + 4) i)) (f_brn_at d hap (by omega)) ?_
          refine a_isub C dX7_burnLamps_52 ?_
          refine a_iastN C (k := (o + 6)) (x_sS6 ho) (i := i) rfl (by omega) (by first | decide | omega) dX7_burnLamps_53 ?_
          refine a_aload_n C dX7_burnLamps_54 3 rfl ?_
          refine a_getR C (k := (o + 1)) iX5 (x_sS1 ho) rfl (j := 6) rfl (by decide) (by decide +kernel) dX7_burnLamps_55 ?_
          refine a_iload C dX7_burnLamps_58 0 rfl ?_
          refine a_dup2 C dX7_burnLamps_60 rfl rfl ?_
          refine a_ialdN C (k := (o + 7)) (x_sS7 ho) (i := i) rfl (by omega) (by first | decide | omega) dX7_burnLamps_61 ?_
          refine a_top (y := ((f_brn d o i) (o + 7) i)) (by rw [x_p_ne (by omega), x_p_ne (by omega)]) ?_
          refine a_top (y := (d (o + 7) i)) (f_brn_at d hap (by omega)) ?_
          refine a_iconst C dX7_burnLamps_62 (v := 1) (by decide) ?_
          refine a_isub C dX7_burnLamps_63 ?_
          refine a_iastN C (k := (o + 7)) (x_sS7 ho) (i := i) rfl (by omega) (by first | decide | omega) dX7_burnLamps_64 ?_
          refine a_aload_n C dX7_burnLamps_65 4 rfl ?_
          refine a_dup C dX7_burnLamps_66 rfl ?_
          refine a_getI C (k := (o + 13)) iX2 (x_sS13 ho) rfl (j := 5) rfl (by decide) (by decide +kernel) dX7_burnLamps_67 ?_
          refine a_top (y := ((f_brn d o i) (o + 13) 5)) (by rw [x_p_ne (by omega), x_p_ne (by omega), x_p_ne (by omega)]) ?_
          refine a_top (y := (f_ob d o i)) (f_brn_5 d o i) ?_
          refine a_aload_n C dX7_burnLamps_70 3 rfl ?_
          refine a_getR C (k := (o + 1)) iX5 (x_sS1 ho) rfl (j := 3) rfl (by decide) (by decide +kernel) dX7_burnLamps_71 ?_
          refine a_iload C dX7_burnLamps_74 0 rfl ?_
          refine a_ialdN C (k := (o + 4)) (x_sS4 ho) (i := i) rfl (by omega) (by first | decide | omega) dX7_burnLamps_76 ?_
          refine a_top (y := ((f_brn d o i) (o + 4) i)) (by rw [x_p_ne (by omega), x_p_ne (by omega), x_p_ne (by omega)]) ?_
          refine a_top (y := (d (o + 4) i)) (f_brn_at d hap (by omega)) ?_
          refine a_iadd C dX7_burnLamps_77 ?_
          refine a_putI C (k := (o + 13)) iX2 tyX2_ok nmX2 (x_sS13 ho) rfl (j := 5) rfl (by decide) (by decide +kernel) rfl (ty := .int) (by decide +kernel) rfl rfl dX7_burnLamps_78 ?_
          refine a_aload_n C dX7_burnLamps_81 4 rfl ?_
          refine a_dup C dX7_burnLamps_82 rfl ?_
          refine a_getI C (k := (o + 13)) iX2 (x_sS13 ho) rfl (j := 8) rfl (by decide) (by decide +kernel) dX7_burnLamps_83 ?_
          refine a_top (y := ((f_brn d o i) (o + 13) 8)) (by rw [x_p_row (by omega), x_p_ne (by omega), x_p_ne (by omega), x_p_ne (by omega)]) ?_
          refine a_top (y := (f_wb d o i)) (by rw [f_brn_8]) ?_
          refine a_iconst C dX7_burnLamps_86 (v := 1) (by decide) ?_
          refine a_iadd C dX7_burnLamps_87 ?_
          refine a_putI C (k := (o + 13)) iX2 tyX2_ok nmX2 (x_sS13 ho) rfl (j := 8) rfl (by decide) (by decide +kernel) rfl (ty := .int) (by decide +kernel) rfl rfl dX7_burnLamps_88 ?_
          refine a_iinc C dX7_burnLamps_91 1 rfl (v := ((f_cb d o i) + 1)) rfl (by decide) (lst2 := [(3, .int ((f_cb d o i) + 1)), (4, .int (nI i)), (0, .ref (x_b G + 157)), (1, .ref (x_b G + (o + 1))), (2, .ref (x_b G + (o + 13)))]) rfl ?_
          refine a_iinc C dX7_burnLamps_94 1 rfl (v := (nI (i + 1))) (x_inc i) (by decide) (lst2 := [(4, .int (nI (i + 1))), (3, .int ((f_cb d o i) + 1)), (0, .ref (x_b G + 157)), (1, .ref (x_b G + (o + 1))), (2, .ref (x_b G + (o + 13)))]) rfl ?_
          refine a_goto C dX7_burnLamps_97 (tgt := 5) (by decide) ?_
          refine a_sub (lst2 := [(4, .int (nI (i + 1))), (3, .int ((f_cb d o i) + 1)), (0, .ref (x_b G + 157)), (1, .ref (x_b G + (o + 1))), (2, .ref (x_b G + (o + 13)))]) [0, 1, 2, 3, 4] rfl ?_
          refine a_to (lst2 := [(4, .int (nI ((i + 1)))), (3, .int (f_cb d o ((i + 1)))), (0, .ref (x_b G + 157)), (1, .ref (x_b G + (o + 1))), (2, .ref (x_b G + (o + 13)))]) (st2 := []) (d2 := f_brn d o ((i + 1))) (by rw [f_cb, if_pos (x_bi_nz h34)]) rfl (by have q := x_bi_nz h34; unfold f_brn; rw [f_ob, f_wb, if_pos q, if_pos q]; exact (x_burn (by omega) (by omega) (by omega) (by omega) (by omega) (by omega) (f_fill_s _ _ i) (by rw [← f_fill_s, f_nO, if_pos q]) (by rw [← f_fill_s, f_nW, if_pos q])).symm) ?_
          exact ih (i + 1) (by omega) (by omega) 
  refine a_sub (lst2 := [(4, .int 0), (3, .int 0), (0, .ref (x_b G + 157)), (1, .ref (x_b G + (o + 1))), (2, .ref (x_b G + (o + 13)))]) [0, 1, 2, 3, 4] rfl ?_
  refine a_toD (d2 := f_brn d o 0) (f_brn_0 d o hap) ?_
  exact L5 (n + 1) 0 (by omega) (by omega)

def f_bi (d : xd) (o : Nat) (x : Int32) : Nat → Bool
  | 0 => false
  | j + 1 => f_bi d o x j || decide (d (o + 2) j = x ∧ ¬ x_bz (d 158 j) = 0)
theorem f_bi_mono {d : xd} {o : Nat} {x : Int32} {i : Nat} : ∀ {n : Nat}, i ≤ n → f_bi d o x i = true → f_bi d o x n = true := by
  intro n h h2
  induction n with
  | zero => have e : i = 0 := by omega
            subst e; exact h2
  | succ n ih =>
    rcases Nat.lt_or_ge i (n + 1) with q | q
    · rw [f_bi, ih (by omega), Bool.true_or]
    · have e : i = n + 1 := by omega
      subst e; exact h2
theorem f_bi_s {d : xd} {o i : Nat} {x : Int32} (h : ¬ (d (o + 2) i = x ∧ ¬ x_bz (d 158 i) = 0)) (h2 : f_bi d o x i = false) : f_bi d o x (i + 1) = false := by
  rw [f_bi, h2, decide_eq_false h]
  rfl
theorem f_bi_t {d : xd} {o i : Nat} {x : Int32} (h : d (o + 2) i = x ∧ ¬ x_bz (d 158 i) = 0) : f_bi d o x (i + 1) = true := by
  rw [f_bi, decide_eq_true h, Bool.or_true]

set_option maxHeartbeats 4000000 in
set_option maxRecDepth 100000 in
theorem c_X7_burnedIn (l : Launch) (G : xG) (d : xd) (o n : Nat) (ho : x_isS o) (hn : d (o + 1) 0 = nI n) (h8 : n ≤ 8) (x : Int32) : x_M G l yX7_burnedIn wsX7_burnedIn 1 0 0 [.ref (x_b G + 157), .int x, .ref (x_b G + (o + 1))] d (some (.int (x_bi (f_bi d o x n = true)))) d := by
  have iX5 : ∀ w ∈ u_ws RX5 TX5 8, w ∈ wsX7_burnedIn := by decide +kernel
  have iX7 : ∀ w ∈ u_ws RX7 TX7 1, w ∈ wsX7_burnedIn := by decide +kernel
  refine x_start (cc := cX7_burnedIn) (maxL := 4) (ret := (some .boolean)) (own := RX7) (by decide) rfl rfl (Nat.le_of_ble_eq_true rfl) (lst := [(0, .ref (x_b G + 157)), (1, .int x), (2, .ref (x_b G + (o + 1)))]) rfl ?_
  intro p e s m args below meth c C hr hlocks
  refine a_iconst C dX7_burnedIn_0 (v := 0) (by decide) ?_
  refine a_istore_n C dX7_burnedIn_1 (by decide) (lst2 := [(3, .int 0), (0, .ref (x_b G + 157)), (1, .int x), (2, .ref (x_b G + (o + 1)))]) rfl ?_
  have L2 : ∀ (j i : Nat), i ≤ n → n < i + j → f_bi d o x i = false → Ab G p l e (x_rm 1 0 0) s m args below meth c 4 0 0 (MQ below (x_Q G (some (.int (x_bi (f_bi d o x n = true)))) d) args s 0 0 (x_A G)) 2 [(3, .int (nI i)), (0, .ref (x_b G + 157)), (1, .int x), (2, .ref (x_b G + (o + 1)))] [] d := by
    intro j
    induction j with
    | zero => intro i h1 h2; exact absurd h2 (by omega)
    | succ j ih =>
      intro i hi hj hf
      refine a_iload_n C dX7_burnedIn_2 0 rfl ?_
      refine a_aload_n C dX7_burnedIn_3 3 rfl ?_
      refine a_getI C (k := (o + 1)) iX5 (x_sS1 ho) rfl (j := 0) rfl (by decide) (by decide +kernel) dX7_burnedIn_4 ?_
      refine a_top (y := (nI n)) hn ?_
      refine a_icmp_ge C dX7_burnedIn_7 (tgt := 37) (by decide) (fun h7 => ?_) (fun h7 => ?_)
      · skip
        have e := x_ge h7 hi (by omega)
        subst e
        refine a_iconst C dX7_burnedIn_37 (v := 0) (by decide) ?_
        exact a_zret C hlocks hr rfl dX7_burnedIn_38 (x_bi_f (by rw [hf]; decide)).symm rfl
      · skip
        have hlt := x_nge h7 hi
        refine a_aload_n C dX7_burnedIn_10 3 rfl ?_
        refine a_getR C (k := (o + 1)) iX5 (x_sS1 ho) rfl (j := 1) rfl (by decide) (by decide +kernel) dX7_burnedIn_11 ?_
        refine a_iload_n C dX7_burnedIn_14 0 rfl ?_
        refine a_ialdN C (k := (o + 2)) (x_sS2 ho) (i := i) rfl (by omega) (by first | decide | omega) dX7_burnedIn_15 ?_
        refine a_iload_n C dX7_burnedIn_16 2 rfl ?_
        refine a_icmp_ne C dX7_burnedIn_17 (tgt := 31) (by decide) (fun h17 => ?_) (fun h17 => ?_)
        · skip
          refine a_iinc C dX7_burnedIn_31 0 rfl (v := (nI (i + 1))) (x_inc i) (by decide) (lst2 := [(3, .int (nI (i + 1))), (0, .ref (x_b G + 157)), (1, .int x), (2, .ref (x_b G + (o + 1)))]) rfl ?_
          refine a_goto C dX7_burnedIn_34 (tgt := 2) (by decide) ?_
          refine a_sub (lst2 := [(3, .int (nI (i + 1))), (0, .ref (x_b G + 157)), (1, .int x), (2, .ref (x_b G + (o + 1)))]) [0, 1, 2, 3] rfl ?_
          exact ih (i + 1) (by omega) (by omega) (f_bi_s (fun z => h17 z.1) hf)
        · skip
          refine a_aload_n C dX7_burnedIn_20 1 rfl ?_
          refine a_getR C (k := 157) iX7 x_k157 rfl (j := 0) rfl (by decide) (by decide +kernel) dX7_burnedIn_21 ?_
          refine a_iload_n C dX7_burnedIn_24 0 rfl ?_
          refine a_zaldN C (k := 158) x_k158 (i := i) rfl (by omega) (by first | decide | omega) dX7_burnedIn_25 ?_
          refine a_if_eq C dX7_burnedIn_26 (tgt := 31) (by decide) (fun h26 => ?_) (fun h26 => ?_)
          · skip
            refine a_iinc C dX7_burnedIn_31 0 rfl (v := (nI (i + 1))) (x_inc i) (by decide) (lst2 := [(3, .int (nI (i + 1))), (0, .ref (x_b G + 157)), (1, .int x), (2, .ref (x_b G + (o + 1)))]) rfl ?_
            refine a_goto C dX7_burnedIn_34 (tgt := 2) (by decide) ?_
            refine a_sub (lst2 := [(3, .int (nI (i + 1))), (0, .ref (x_b G + 157)), (1, .int x), (2, .ref (x_b G + (o + 1)))]) [0, 1, 2, 3] rfl ?_
            exact ih (i + 1) (by omega) (by omega) (f_bi_s (fun z => z.2 h26) hf)
          · skip
            refine a_iconst C dX7_burnedIn_29 (v := 1) (by decide) ?_
            exact a_zret C hlocks hr rfl dX7_burnedIn_30 (x_bi_t (f_bi_mono (i := i + 1) (by omega) (f_bi_t ⟨h17, h26⟩))).symm rfl
  refine a_sub (lst2 := [(3, .int 0), (0, .ref (x_b G + 157)), (1, .int x), (2, .ref (x_b G + (o + 1)))]) [0, 1, 2, 3] rfl ?_
  exact L2 (n + 1) 0 (by omega) (by omega) rfl

def f_ps (d : xd) (o n : Nat) : Nat → xd
  | 0 => d
  | i + 1 => if f_bi d o (nI i) n = true then f_ps d o n i else x_p (x_p (f_ps d o n i) (o + 13) 2 (f_ps d o n i (o + 13) 2 + 3)) (o + 13) 9 (f_ps d o n i (o + 13) 9 + 3)
theorem f_ps_out {d : xd} {o n k : Nat} (h : k ≠ o + 13) : ∀ i, f_ps d o n i k = d k
  | 0 => rfl
  | i + 1 => by
    have h1 := f_ps_out (d := d) (o := o) (n := n) h i
    rw [f_ps]
    split
    · exact h1
    · rw [x_p_ne h, x_p_ne h, h1]
theorem f_bi_cong {d d2 : xd} {o : Nat} {x : Int32} (h : d2 (o + 2) = d (o + 2)) (h2 : d2 158 = d 158) : ∀ n, f_bi d2 o x n = f_bi d o x n
  | 0 => rfl
  | n + 1 => by rw [f_bi, f_bi, f_bi_cong h h2 n, h, h2]

set_option maxHeartbeats 4000000 in
set_option maxRecDepth 100000 in
theorem c_X7_paySubsidies (l : Launch) (G : xG) (d : xd) (o n : Nat) (ho : x_isS o) (hn : d (o + 1) 0 = nI n) (h8 : n ≤ 8) : x_M G l yX7_paySubsidies wsX7_paySubsidies 3 0 0 [.ref (x_b G + 157), .ref (x_b G + (o + 1)), .ref (x_b G + (o + 13))] d none (f_ps d o n 4) := by
  have hap := x_isS_le ho
  have iX2 : ∀ w ∈ u_ws RX2 TX2 10, w ∈ wsX7_paySubsidies := by decide +kernel
  refine x_start (cc := cX7_paySubsidies) (maxL := 4) (ret := none) (own := RX7) (by decide) rfl rfl (Nat.le_of_ble_eq_true rfl) (lst := [(0, .ref (x_b G + 157)), (1, .ref (x_b G + (o + 1))), (2, .ref (x_b G + (o + 13)))]) rfl ?_
  intro p e s m args below meth c C hr hlocks
  refine a_iconst C dX7_paySubsidies_0 (v := 0) (by decide) ?_
  refine a_istore_n C dX7_paySubsidies_1 (by decide) (lst2 := [(3, .int 0), (0, .ref (x_b G + 157)), (1, .ref (x_b G + (o + 1))), (2, .ref (x_b G + (o + 13)))]) rfl ?_
  have L2 : ∀ (j i : Nat), i ≤ 4 → 4 < i + j → Ab G p l e (x_rm 3 0 0) s m args below meth c 4 0 0 (MQ below (x_Q G none (f_ps d o n 4)) args s 0 0 (x_A G)) 2 [(3, .int (nI i)), (0, .ref (x_b G + 157)), (1, .ref (x_b G + (o + 1))), (2, .ref (x_b G + (o + 13)))] [] (f_ps d o n i) := by
    intro j
    induction j with
    | zero => intro i h1 h2; exact absurd h2 (by omega)
    | succ j ih =>
      intro i hi hj 
      refine a_iload_n C dX7_paySubsidies_2 0 rfl ?_
      refine a_iconst C dX7_paySubsidies_3 (v := 4) (by decide) ?_
      refine a_icmp_ge C dX7_paySubsidies_4 (tgt := 42) (by decide) (fun h4 => ?_) (fun h4 => ?_)
      · skip
        have e := x_ge (n := 4) h4 hi (by omega)
        subst e
        exact a_vret C hlocks hr dX7_paySubsidies_42 rfl
      · skip
        have hlt := x_nge (n := 4) h4 hi
        refine a_aload_n C dX7_paySubsidies_7 1 rfl ?_
        refine a_iload_n C dX7_paySubsidies_8 0 rfl ?_
        refine a_aload_n C dX7_paySubsidies_9 2 rfl ?_
        refine a_callV C (k := 157) (As := [.int (nI i), .ref (x_b G + (o + 1))]) (rest := []) (c_X7_burnedIn l G (f_ps d o n i) o n ho (by rw [f_ps_out (by omega)]; exact hn) h8 (nI i)) (cwV 2 C.1.2.2.2.2 gX7_paySubsidies_X7_burnedIn rfl rfl rfl (by decide +kernel) ⟨Nat.le_of_ble_eq_true rfl, Nat.le_of_ble_eq_true rfl⟩) x_k157 (q := (RX7, TX7, 1)) rfl rfl rfl rfl (Nat.le_of_ble_eq_true rfl) dX7_paySubsidies_10 ⟨Nat.le_of_ble_eq_true rfl, Nat.le_of_ble_eq_true rfl⟩ ?_
        refine a_top (y := (x_bi (f_bi d o (nI i) n = true))) (by rw [f_bi_cong (f_ps_out (by omega) i) (f_ps_out (by omega) i) n]) ?_
        refine a_if_ne C dX7_paySubsidies_13 (tgt := 36) (by decide) (fun h13 => ?_) (fun h13 => ?_)
        · skip
          refine a_iinc C dX7_paySubsidies_36 0 rfl (v := (nI (i + 1))) (x_inc i) (by decide) (lst2 := [(3, .int (nI (i + 1))), (0, .ref (x_b G + 157)), (1, .ref (x_b G + (o + 1))), (2, .ref (x_b G + (o + 13)))]) rfl ?_
          refine a_goto C dX7_paySubsidies_39 (tgt := 2) (by decide) ?_
          refine a_sub (lst2 := [(3, .int (nI (i + 1))), (0, .ref (x_b G + 157)), (1, .ref (x_b G + (o + 1))), (2, .ref (x_b G + (o + 13)))]) [0, 1, 2, 3] rfl ?_
          refine a_to (lst2 := [(3, .int (nI ((i + 1)))), (0, .ref (x_b G + 157)), (1, .ref (x_b G + (o + 1))), (2, .ref (x_b G + (o + 13)))]) (st2 := []) (d2 := f_ps d o n ((i + 1))) rfl rfl (by rw [f_ps, if_pos (x_bi_nz h13)]) ?_
          exact ih (i + 1) (by omega) (by omega) 
        · skip
          refine a_aload_n C dX7_paySubsidies_16 3 rfl ?_
          refine a_dup C dX7_paySubsidies_17 rfl ?_
          refine a_getI C (k := (o + 13)) iX2 (x_sS13 ho) rfl (j := 2) rfl (by decide) (by decide +kernel) dX7_paySubsidies_18 ?_
          refine a_iconst C dX7_paySubsidies_21 (v := 3) (by decide) ?_
          refine a_iadd C dX7_paySubsidies_22 ?_
          refine a_putI C (k := (o + 13)) iX2 tyX2_ok nmX2 (x_sS13 ho) rfl (j := 2) rfl (by decide) (by decide +kernel) rfl (ty := .int) (by decide +kernel) rfl rfl dX7_paySubsidies_23 ?_
          refine a_aload_n C dX7_paySubsidies_26 3 rfl ?_
          refine a_dup C dX7_paySubsidies_27 rfl ?_
          refine a_getI C (k := (o + 13)) iX2 (x_sS13 ho) rfl (j := 9) rfl (by decide) (by decide +kernel) dX7_paySubsidies_28 ?_
          refine a_top (y := ((f_ps d o n i) (o + 13) 9)) (by rw [x_p_row (by omega)]) ?_
          refine a_iconst C dX7_paySubsidies_31 (v := 3) (by decide) ?_
          refine a_iadd C dX7_paySubsidies_32 ?_
          refine a_putI C (k := (o + 13)) iX2 tyX2_ok nmX2 (x_sS13 ho) rfl (j := 9) rfl (by decide) (by decide +kernel) rfl (ty := .int) (by decide +kernel) rfl rfl dX7_paySubsidies_33 ?_
          refine a_iinc C dX7_paySubsidies_36 0 rfl (v := (nI (i + 1))) (x_inc i) (by decide) (lst2 := [(3, .int (nI (i + 1))), (0, .ref (x_b G + 157)), (1, .ref (x_b G + (o + 1))), (2, .ref (x_b G + (o + 13)))]) rfl ?_
          refine a_goto C dX7_paySubsidies_39 (tgt := 2) (by decide) ?_
          refine a_sub (lst2 := [(3, .int (nI (i + 1))), (0, .ref (x_b G + 157)), (1, .ref (x_b G + (o + 1))), (2, .ref (x_b G + (o + 13)))]) [0, 1, 2, 3] rfl ?_
          refine a_to (lst2 := [(3, .int (nI ((i + 1)))), (0, .ref (x_b G + 157)), (1, .ref (x_b G + (o + 1))), (2, .ref (x_b G + (o + 13)))]) (st2 := []) (d2 := f_ps d o n ((i + 1))) rfl rfl (by rw [f_ps, if_neg (x_bi_z h13)]) ?_
          exact ih (i + 1) (by omega) (by omega) 
  refine a_sub (lst2 := [(3, .int 0), (0, .ref (x_b G + 157)), (1, .ref (x_b G + (o + 1))), (2, .ref (x_b G + (o + 13)))]) [0, 1, 2, 3] rfl ?_
  exact L2 (4 + 1) 0 (by omega) (by omega) 

def f_at (d : xd) (o i : Nat) : Bool := decide ((0 ≤ d (o + 10) i ∧ d (o + 10) i < d (o + 1) 0) ∧ ¬ x_bz (d 158 (d (o + 10) i).toNatClampNeg) = 0)
def f_m1 (d : xd) (o i : Nat) : xd := if 0 < d (o + 12) i then (if f_at d o i = true then x_p d (o + 11) i (d (o + 11) i + 1) else x_p d (o + 12) i (d (o + 12) i - 1)) else if f_at d o i = true then (if d (o + 6) (d (o + 10) i).toNatClampNeg ≤ 0 then d else x_p (x_p d (o + 6) (d (o + 10) i).toNatClampNeg (d (o + 6) (d (o + 10) i).toNatClampNeg - 1)) (o + 13) 6 (d (o + 13) 6 + 1)) else d
def f_ma (d : xd) (o : Nat) : Nat → xd
  | 0 => d
  | i + 1 => f_m1 (f_ma d o i) o i
theorem f_m1_out {d : xd} {o i k : Nat} (h1 : k ≠ o + 6) (h2 : k ≠ o + 11) (h3 : k ≠ o + 12) (h4 : k ≠ o + 13) : f_m1 d o i k = d k := by
  unfold f_m1
  split
  · split
    · rw [x_p_ne h2]
    · rw [x_p_ne h3]
  · split
    · split
      · rfl
      · rw [x_p_ne h4, x_p_ne h1]
    · rfl
theorem f_ma_out {d : xd} {o k : Nat} (h1 : k ≠ o + 6) (h2 : k ≠ o + 11) (h3 : k ≠ o + 12) (h4 : k ≠ o + 13) : ∀ i, f_ma d o i k = d k
  | 0 => rfl
  | i + 1 => by rw [f_ma, f_m1_out h1 h2 h3 h4, f_ma_out h1 h2 h3 h4 i]

set_option maxHeartbeats 4000000 in
set_option maxRecDepth 100000 in
theorem c_X7_letMothsAct (l : Launch) (G : xG) (d : xd) (o n : Nat) (ho : x_isS o) (hn : d (o + 1) 0 = nI n) (h8 : n ≤ 8) (q : Nat) (hq : d (o + 9) 0 = nI q) (h6 : q ≤ 6) : x_M G l yX7_letMothsAct wsX7_letMothsAct 2 0 0 [.ref (x_b G + 157), .ref (x_b G + o)] d none (f_ma d o q) := by
  have hap := x_isS_le ho
  have iX2 : ∀ w ∈ u_ws RX2 TX2 10, w ∈ wsX7_letMothsAct := by decide +kernel
  have iX5 : ∀ w ∈ u_ws RX5 TX5 8, w ∈ wsX7_letMothsAct := by decide +kernel
  have iX6 : ∀ w ∈ u_ws RX6 TX6 4, w ∈ wsX7_letMothsAct := by decide +kernel
  have iX7 : ∀ w ∈ u_ws RX7 TX7 1, w ∈ wsX7_letMothsAct := by decide +kernel
  have iX9 : ∀ w ∈ u_ws RX9 TX9 3, w ∈ wsX7_letMothsAct := by decide +kernel
  refine x_start (cc := cX7_letMothsAct) (maxL := 5) (ret := none) (own := RX7) (by decide) rfl rfl (Nat.le_of_ble_eq_true rfl) (lst := [(0, .ref (x_b G + 157)), (1, .ref (x_b G + o))]) rfl ?_
  intro p e s m args below meth c C hr hlocks
  refine a_iconst C dX7_letMothsAct_0 (v := 0) (by decide) ?_
  refine a_istore_n C dX7_letMothsAct_1 (by decide) (lst2 := [(2, .int 0), (0, .ref (x_b G + 157)), (1, .ref (x_b G + o))]) rfl ?_
  have L2 : ∀ (j i : Nat), i ≤ q → q < i + j → Ab G p l e (x_rm 2 0 0) s m args below meth c 5 0 0 (MQ below (x_Q G none (f_ma d o q)) args s 0 0 (x_A G)) 2 [(2, .int (nI i)), (0, .ref (x_b G + 157)), (1, .ref (x_b G + o))] [] (f_ma d o i) := by
    intro j
    induction j with
    | zero => intro i h1 h2; exact absurd h2 (by omega)
    | succ j ih =>
      intro i hi hj 
      have hcn : f_ma d o i (o + 1) 0 = nI n := by rw [f_ma_out (by omega) (by omega) (by omega) (by omega)]; exact hn
      refine a_iload_n C dX7_letMothsAct_2 0 rfl ?_
      refine a_aload_n C dX7_letMothsAct_3 2 rfl ?_
      refine a_getR C (k := o) iX9 (x_sS0 ho) rfl (j := 1) rfl (by decide) (by decide +kernel) dX7_letMothsAct_4 ?_
      refine a_getI C (k := (o + 9)) iX6 (x_sS9 ho) rfl (j := 0) rfl (by decide) (by decide +kernel) dX7_letMothsAct_7 ?_
      refine a_top (y := (nI q)) (by rw [f_ma_out (by omega) (by omega) (by omega) (by omega)]; exact hq) ?_
      refine a_icmp_ge C dX7_letMothsAct_10 (tgt := 147) (by decide) (fun h10 => ?_) (fun h10 => ?_)
      · skip
        have e := x_ge h10 hi (by omega)
        subst e
        exact a_vret C hlocks hr dX7_letMothsAct_147 rfl
      · skip
        have hlt := x_nge h10 hi
        refine a_aload_n C dX7_letMothsAct_13 2 rfl ?_
        refine a_getR C (k := o) iX9 (x_sS0 ho) rfl (j := 1) rfl (by decide) (by decide +kernel) dX7_letMothsAct_14 ?_
        refine a_getR C (k := (o + 9)) iX6 (x_sS9 ho) rfl (j := 1) rfl (by decide) (by decide +kernel) dX7_letMothsAct_17 ?_
        refine a_iload_n C dX7_letMothsAct_20 0 rfl ?_
        refine a_ialdN C (k := (o + 10)) (x_sS10 ho) (i := i) rfl (by omega) (by first | decide | omega) dX7_letMothsAct_21 ?_
        refine a_istore_n C dX7_letMothsAct_22 (by decide) (lst2 := [(3, .int ((f_ma d o i) (o + 10) i)), (2, .int (nI i)), (0, .ref (x_b G + 157)), (1, .ref (x_b G + o))]) rfl ?_
        refine a_aload_n C dX7_letMothsAct_23 3 rfl ?_
        refine a_getR C (k := o) iX9 (x_sS0 ho) rfl (j := 0) rfl (by decide) (by decide +kernel) dX7_letMothsAct_24 ?_
        refine a_iload_n C dX7_letMothsAct_27 0 rfl ?_
        refine a_callV C (k := (o + 1)) (As := [.int ((f_ma d o i) (o + 10) i)]) (rest := []) (c_X5_has l G (f_ma d o i) o ho (f_ma d o i (o + 10) i)) (cwV 1 C.1.2.2.2.2 gX7_letMothsAct_X5_has rfl rfl rfl (by decide +kernel) ⟨Nat.le_of_ble_eq_true rfl, Nat.le_of_ble_eq_true rfl⟩) (x_sS1 ho) (q := (RX5, TX5, 8)) rfl rfl rfl rfl (Nat.le_of_ble_eq_true rfl) dX7_letMothsAct_28 ⟨Nat.le_of_ble_eq_true rfl, Nat.le_of_ble_eq_true rfl⟩ ?_
        refine a_if_eq C dX7_letMothsAct_31 (tgt := 47) (by decide) (fun h31 => ?_) (fun h31 => ?_)
        · skip
          refine a_iconst C dX7_letMothsAct_47 (v := 0) (by decide) ?_
          refine a_istore C dX7_letMothsAct_48 (by decide) (lst2 := [(4, .int 0), (3, .int ((f_ma d o i) (o + 10) i)), (2, .int (nI i)), (0, .ref (x_b G + 157)), (1, .ref (x_b G + o))]) rfl ?_
          refine a_aload_n C dX7_letMothsAct_50 4 rfl ?_
          refine a_getR C (k := o) iX9 (x_sS0 ho) rfl (j := 1) rfl (by decide) (by decide +kernel) dX7_letMothsAct_51 ?_
          refine a_iload_n C dX7_letMothsAct_54 2 rfl ?_
          refine a_callV C (k := (o + 9)) (As := [.int (nI i)]) (rest := []) (c_X6_onProbation l G (f_ma d o i) o i ho (by omega)) (cwV 1 C.1.2.2.2.2 gX7_letMothsAct_X6_onProbation rfl rfl rfl (by decide +kernel) ⟨Nat.le_of_ble_eq_true rfl, Nat.le_of_ble_eq_true rfl⟩) (x_sS9 ho) (q := (RX6, TX6, 4)) rfl rfl rfl rfl (Nat.le_of_ble_eq_true rfl) dX7_letMothsAct_55 ⟨Nat.le_of_ble_eq_true rfl, Nat.le_of_ble_eq_true rfl⟩ ?_
          refine a_if_ne C dX7_letMothsAct_58 (tgt := 107) (by decide) (fun h58 => ?_) (fun h58 => ?_)
          · skip
            refine a_iload C dX7_letMothsAct_107 0 rfl ?_
            refine a_if_eq C dX7_letMothsAct_109 (tgt := 128) (by decide) (fun _ => ?_) (fun h => absurd h (by decide))
            refine a_aload_n C dX7_letMothsAct_128 4 rfl ?_
            refine a_getR C (k := o) iX9 (x_sS0 ho) rfl (j := 1) rfl (by decide) (by decide +kernel) dX7_letMothsAct_129 ?_
            refine a_getR C (k := (o + 9)) iX6 (x_sS9 ho) rfl (j := 3) rfl (by decide) (by decide +kernel) dX7_letMothsAct_132 ?_
            refine a_iload_n C dX7_letMothsAct_135 2 rfl ?_
            refine a_dup2 C dX7_letMothsAct_136 rfl rfl ?_
            refine a_ialdN C (k := (o + 12)) (x_sS12 ho) (i := i) rfl (by omega) (by first | decide | omega) dX7_letMothsAct_137 ?_
            refine a_iconst C dX7_letMothsAct_138 (v := 1) (by decide) ?_
            refine a_isub C dX7_letMothsAct_139 ?_
            refine a_iastN C (k := (o + 12)) (x_sS12 ho) (i := i) rfl (by omega) (by first | decide | omega) dX7_letMothsAct_140 ?_
            refine a_iinc C dX7_letMothsAct_141 2 rfl (v := (nI (i + 1))) (x_inc i) (by decide) (lst2 := [(2, .int (nI (i + 1))), (4, .int 0), (3, .int ((f_ma d o i) (o + 10) i)), (0, .ref (x_b G + 157)), (1, .ref (x_b G + o))]) rfl ?_
            refine a_goto C dX7_letMothsAct_144 (tgt := 2) (by decide) ?_
            refine a_sub (lst2 := [(2, .int (nI (i + 1))), (0, .ref (x_b G + 157)), (1, .ref (x_b G + o))]) [0, 3, 4] rfl ?_
            refine a_to (lst2 := [(2, .int (nI ((i + 1)))), (0, .ref (x_b G + 157)), (1, .ref (x_b G + o))]) (st2 := []) (d2 := f_ma d o ((i + 1))) rfl rfl (by have qa : f_at (f_ma d o i) o i = false := (decide_eq_false (fun z => x_bi_z h31 z.1)); rw [f_ma, f_m1, if_pos (x_bi_nz h58), if_neg (by rw [qa]; decide)]) ?_
            exact ih (i + 1) (by omega) (by omega) 
          · skip
            refine a_iload C dX7_letMothsAct_61 0 rfl ?_
            refine a_if_eq C dX7_letMothsAct_63 (tgt := 141) (by decide) (fun _ => ?_) (fun h => absurd h (by decide))
            refine a_iinc C dX7_letMothsAct_141 2 rfl (v := (nI (i + 1))) (x_inc i) (by decide) (lst2 := [(2, .int (nI (i + 1))), (4, .int 0), (3, .int ((f_ma d o i) (o + 10) i)), (0, .ref (x_b G + 157)), (1, .ref (x_b G + o))]) rfl ?_
            refine a_goto C dX7_letMothsAct_144 (tgt := 2) (by decide) ?_
            refine a_sub (lst2 := [(2, .int (nI (i + 1))), (0, .ref (x_b G + 157)), (1, .ref (x_b G + o))]) [0, 3, 4] rfl ?_
            refine a_to (lst2 := [(2, .int (nI ((i + 1)))), (0, .ref (x_b G + 157)), (1, .ref (x_b G + o))]) (st2 := []) (d2 := f_ma d o ((i + 1))) rfl rfl (by have qa : f_at (f_ma d o i) o i = false := (decide_eq_false (fun z => x_bi_z h31 z.1)); rw [f_ma, f_m1, if_neg (x_bi_z h58), if_neg (by rw [qa]; decide)]) ?_
            exact ih (i + 1) (by omega) (by omega) 
        · skip
          have qh := x_bi_nz h31
          rw [hcn] at qh
          obtain ⟨ex, hx⟩ := x_ix qh (by omega)
          refine a_aload_n C dX7_letMothsAct_34 2 rfl ?_
          refine a_getR C (k := 157) iX7 x_k157 rfl (j := 0) rfl (by decide) (by decide +kernel) dX7_letMothsAct_35 ?_
          refine a_iload_n C dX7_letMothsAct_38 0 rfl ?_
          refine a_zaldN C (k := 158) x_k158 (i := (f_ma d o i (o + 10) i).toNatClampNeg) ex (by omega) (by first | decide | omega) dX7_letMothsAct_39 ?_
          refine a_if_eq C dX7_letMothsAct_40 (tgt := 47) (by decide) (fun h40 => ?_) (fun h40 => ?_)
          · skip
            refine a_iconst C dX7_letMothsAct_47 (v := 0) (by decide) ?_
            refine a_istore C dX7_letMothsAct_48 (by decide) (lst2 := [(4, .int 0), (3, .int ((f_ma d o i) (o + 10) i)), (2, .int (nI i)), (0, .ref (x_b G + 157)), (1, .ref (x_b G + o))]) rfl ?_
            refine a_aload_n C dX7_letMothsAct_50 4 rfl ?_
            refine a_getR C (k := o) iX9 (x_sS0 ho) rfl (j := 1) rfl (by decide) (by decide +kernel) dX7_letMothsAct_51 ?_
            refine a_iload_n C dX7_letMothsAct_54 2 rfl ?_
            refine a_callV C (k := (o + 9)) (As := [.int (nI i)]) (rest := []) (c_X6_onProbation l G (f_ma d o i) o i ho (by omega)) (cwV 1 C.1.2.2.2.2 gX7_letMothsAct_X6_onProbation rfl rfl rfl (by decide +kernel) ⟨Nat.le_of_ble_eq_true rfl, Nat.le_of_ble_eq_true rfl⟩) (x_sS9 ho) (q := (RX6, TX6, 4)) rfl rfl rfl rfl (Nat.le_of_ble_eq_true rfl) dX7_letMothsAct_55 ⟨Nat.le_of_ble_eq_true rfl, Nat.le_of_ble_eq_true rfl⟩ ?_
            refine a_if_ne C dX7_letMothsAct_58 (tgt := 107) (by decide) (fun h58 => ?_) (fun h58 => ?_)
            · skip
              refine a_iload C dX7_letMothsAct_107 0 rfl ?_
              refine a_if_eq C dX7_letMothsAct_109 (tgt := 128) (by decide) (fun _ => ?_) (fun h => absurd h (by decide))
              refine a_aload_n C dX7_letMothsAct_128 4 rfl ?_
              refine a_getR C (k := o) iX9 (x_sS0 ho) rfl (j := 1) rfl (by decide) (by decide +kernel) dX7_letMothsAct_129 ?_
              refine a_getR C (k := (o + 9)) iX6 (x_sS9 ho) rfl (j := 3) rfl (by decide) (by decide +kernel) dX7_letMothsAct_132 ?_
              refine a_iload_n C dX7_letMothsAct_135 2 rfl ?_
              refine a_dup2 C dX7_letMothsAct_136 rfl rfl ?_
              refine a_ialdN C (k := (o + 12)) (x_sS12 ho) (i := i) rfl (by omega) (by first | decide | omega) dX7_letMothsAct_137 ?_
              refine a_iconst C dX7_letMothsAct_138 (v := 1) (by decide) ?_
              refine a_isub C dX7_letMothsAct_139 ?_
              refine a_iastN C (k := (o + 12)) (x_sS12 ho) (i := i) rfl (by omega) (by first | decide | omega) dX7_letMothsAct_140 ?_
              refine a_iinc C dX7_letMothsAct_141 2 rfl (v := (nI (i + 1))) (x_inc i) (by decide) (lst2 := [(2, .int (nI (i + 1))), (4, .int 0), (3, .int ((f_ma d o i) (o + 10) i)), (0, .ref (x_b G + 157)), (1, .ref (x_b G + o))]) rfl ?_
              refine a_goto C dX7_letMothsAct_144 (tgt := 2) (by decide) ?_
              refine a_sub (lst2 := [(2, .int (nI (i + 1))), (0, .ref (x_b G + 157)), (1, .ref (x_b G + o))]) [0, 3, 4] rfl ?_
              refine a_to (lst2 := [(2, .int (nI ((i + 1)))), (0, .ref (x_b G + 157)), (1, .ref (x_b G + o))]) (st2 := []) (d2 := f_ma d o ((i + 1))) rfl rfl (by have qa : f_at (f_ma d o i) o i = false := (decide_eq_false (fun z => z.2 h40)); rw [f_ma, f_m1, if_pos (x_bi_nz h58), if_neg (by rw [qa]; decide)]) ?_
              exact ih (i + 1) (by omega) (by omega) 
            · skip
              refine a_iload C dX7_letMothsAct_61 0 rfl ?_
              refine a_if_eq C dX7_letMothsAct_63 (tgt := 141) (by decide) (fun _ => ?_) (fun h => absurd h (by decide))
              refine a_iinc C dX7_letMothsAct_141 2 rfl (v := (nI (i + 1))) (x_inc i) (by decide) (lst2 := [(2, .int (nI (i + 1))), (4, .int 0), (3, .int ((f_ma d o i) (o + 10) i)), (0, .ref (x_b G + 157)), (1, .ref (x_b G + o))]) rfl ?_
              refine a_goto C dX7_letMothsAct_144 (tgt := 2) (by decide) ?_
              refine a_sub (lst2 := [(2, .int (nI (i + 1))), (0, .ref (x_b G + 157)), (1, .ref (x_b G + o))]) [0, 3, 4] rfl ?_
              refine a_to (lst2 := [(2, .int (nI ((i + 1)))), (0, .ref (x_b G + 157)), (1, .ref (x_b G + o))]) (st2 := []) (d2 := f_ma d o ((i + 1))) rfl rfl (by have qa : f_at (f_ma d o i) o i = false := (decide_eq_false (fun z => z.2 h40)); rw [f_ma, f_m1, if_neg (x_bi_z h58), if_neg (by rw [qa]; decide)]) ?_
              exact ih (i + 1) (by omega) (by omega) 
          · skip
            refine a_iconst C dX7_letMothsAct_43 (v := 1) (by decide) ?_
            refine a_goto C dX7_letMothsAct_44 (tgt := 48) (by decide) ?_
            refine a_istore C dX7_letMothsAct_48 (by decide) (lst2 := [(4, .int 1), (3, .int ((f_ma d o i) (o + 10) i)), (2, .int (nI i)), (0, .ref (x_b G + 157)), (1, .ref (x_b G + o))]) rfl ?_
            refine a_aload_n C dX7_letMothsAct_50 4 rfl ?_
            refine a_getR C (k := o) iX9 (x_sS0 ho) rfl (j := 1) rfl (by decide) (by decide +kernel) dX7_letMothsAct_51 ?_
            refine a_iload_n C dX7_letMothsAct_54 2 rfl ?_
            refine a_callV C (k := (o + 9)) (As := [.int (nI i)]) (rest := []) (c_X6_onProbation l G (f_ma d o i) o i ho (by omega)) (cwV 1 C.1.2.2.2.2 gX7_letMothsAct_X6_onProbation rfl rfl rfl (by decide +kernel) ⟨Nat.le_of_ble_eq_true rfl, Nat.le_of_ble_eq_true rfl⟩) (x_sS9 ho) (q := (RX6, TX6, 4)) rfl rfl rfl rfl (Nat.le_of_ble_eq_true rfl) dX7_letMothsAct_55 ⟨Nat.le_of_ble_eq_true rfl, Nat.le_of_ble_eq_true rfl⟩ ?_
            refine a_if_ne C dX7_letMothsAct_58 (tgt := 107) (by decide) (fun h58 => ?_) (fun h58 => ?_)
            · skip
              refine a_iload C dX7_letMothsAct_107 0 rfl ?_
              refine a_if_eq C dX7_letMothsAct_109 (tgt := 128) (by decide) (fun h => absurd h (by decide)) (fun _ => ?_)
              refine a_aload_n C dX7_letMothsAct_112 4 rfl ?_
              refine a_getR C (k := o) iX9 (x_sS0 ho) rfl (j := 1) rfl (by decide) (by decide +kernel) dX7_letMothsAct_113 ?_
              refine a_getR C (k := (o + 9)) iX6 (x_sS9 ho) rfl (j := 2) rfl (by decide) (by decide +kernel) dX7_letMothsAct_116 ?_
              refine a_iload_n C dX7_letMothsAct_119 2 rfl ?_
              refine a_dup2 C dX7_letMothsAct_120 rfl rfl ?_
              refine a_ialdN C (k := (o + 11)) (x_sS11 ho) (i := i) rfl (by omega) (by first | decide | omega) dX7_letMothsAct_121 ?_
              refine a_iconst C dX7_letMothsAct_122 (v := 1) (by decide) ?_
              refine a_iadd C dX7_letMothsAct_123 ?_
              refine a_iastN C (k := (o + 11)) (x_sS11 ho) (i := i) rfl (by omega) (by first | decide | omega) dX7_letMothsAct_124 ?_
              refine a_goto C dX7_letMothsAct_125 (tgt := 141) (by decide) ?_
              refine a_iinc C dX7_letMothsAct_141 2 rfl (v := (nI (i + 1))) (x_inc i) (by decide) (lst2 := [(2, .int (nI (i + 1))), (4, .int 1), (3, .int ((f_ma d o i) (o + 10) i)), (0, .ref (x_b G + 157)), (1, .ref (x_b G + o))]) rfl ?_
              refine a_goto C dX7_letMothsAct_144 (tgt := 2) (by decide) ?_
              refine a_sub (lst2 := [(2, .int (nI (i + 1))), (0, .ref (x_b G + 157)), (1, .ref (x_b G + o))]) [0, 3, 4] rfl ?_
              refine a_to (lst2 := [(2, .int (nI ((i + 1)))), (0, .ref (x_b G + 157)), (1, .ref (x_b G + o))]) (st2 := []) (d2 := f_ma d o ((i + 1))) rfl rfl (by have qa : f_at (f_ma d o i) o i = true := (decide_eq_true ⟨x_bi_nz h31, h40⟩); rw [f_ma, f_m1, if_pos (x_bi_nz h58), if_pos qa]) ?_
              exact ih (i + 1) (by omega) (by omega) 
            · skip
              refine a_iload C dX7_letMothsAct_61 0 rfl ?_
              refine a_if_eq C dX7_letMothsAct_63 (tgt := 141) (by decide) (fun h => absurd h (by decide)) (fun _ => ?_)
              refine a_aload_n C dX7_letMothsAct_66 4 rfl ?_
              refine a_getR C (k := o) iX9 (x_sS0 ho) rfl (j := 0) rfl (by decide) (by decide +kernel) dX7_letMothsAct_67 ?_
              refine a_getR C (k := (o + 1)) iX5 (x_sS1 ho) rfl (j := 5) rfl (by decide) (by decide +kernel) dX7_letMothsAct_70 ?_
              refine a_iload_n C dX7_letMothsAct_73 1 rfl ?_
              refine a_ialdN C (k := (o + 6)) (x_sS6 ho) (i := (f_ma d o i (o + 10) i).toNatClampNeg) ex (by omega) (by first | decide | omega) dX7_letMothsAct_74 ?_
              refine a_if_le C dX7_letMothsAct_75 (tgt := 141) (by decide) (fun h75 => ?_) (fun h75 => ?_)
              · skip
                refine a_iinc C dX7_letMothsAct_141 2 rfl (v := (nI (i + 1))) (x_inc i) (by decide) (lst2 := [(2, .int (nI (i + 1))), (4, .int 1), (3, .int ((f_ma d o i) (o + 10) i)), (0, .ref (x_b G + 157)), (1, .ref (x_b G + o))]) rfl ?_
                refine a_goto C dX7_letMothsAct_144 (tgt := 2) (by decide) ?_
                refine a_sub (lst2 := [(2, .int (nI (i + 1))), (0, .ref (x_b G + 157)), (1, .ref (x_b G + o))]) [0, 3, 4] rfl ?_
                refine a_to (lst2 := [(2, .int (nI ((i + 1)))), (0, .ref (x_b G + 157)), (1, .ref (x_b G + o))]) (st2 := []) (d2 := f_ma d o ((i + 1))) rfl rfl (by have qa : f_at (f_ma d o i) o i = true := (decide_eq_true ⟨x_bi_nz h31, h40⟩); rw [f_ma, f_m1, if_neg (x_bi_z h58), if_pos qa, if_pos h75]) ?_
                exact ih (i + 1) (by omega) (by omega) 
              · skip
                refine a_aload_n C dX7_letMothsAct_78 4 rfl ?_
                refine a_getR C (k := o) iX9 (x_sS0 ho) rfl (j := 0) rfl (by decide) (by decide +kernel) dX7_letMothsAct_79 ?_
                refine a_getR C (k := (o + 1)) iX5 (x_sS1 ho) rfl (j := 5) rfl (by decide) (by decide +kernel) dX7_letMothsAct_82 ?_
                refine a_iload_n C dX7_letMothsAct_85 1 rfl ?_
                refine a_dup2 C dX7_letMothsAct_86 rfl rfl ?_
                refine a_ialdN C (k := (o + 6)) (x_sS6 ho) (i := (f_ma d o i (o + 10) i).toNatClampNeg) ex (by omega) (by first | decide | omega) dX7_letMothsAct_87 ?_
                refine a_iconst C dX7_letMothsAct_88 (v := 1) (by decide) ?_
                refine a_isub C dX7_letMothsAct_89 ?_
                refine a_iastN C (k := (o + 6)) (x_sS6 ho) (i := (f_ma d o i (o + 10) i).toNatClampNeg) ex (by omega) (by first | decide | omega) dX7_letMothsAct_90 ?_
                refine a_aload_n C dX7_letMothsAct_91 4 rfl ?_
                refine a_getR C (k := o) iX9 (x_sS0 ho) rfl (j := 2) rfl (by decide) (by decide +kernel) dX7_letMothsAct_92 ?_
                refine a_dup C dX7_letMothsAct_95 rfl ?_
                refine a_getI C (k := (o + 13)) iX2 (x_sS13 ho) rfl (j := 6) rfl (by decide) (by decide +kernel) dX7_letMothsAct_96 ?_
                refine a_top (y := ((f_ma d o i) (o + 13) 6)) (by rw [x_p_ne (by omega)]) ?_
                refine a_iconst C dX7_letMothsAct_99 (v := 1) (by decide) ?_
                refine a_iadd C dX7_letMothsAct_100 ?_
                refine a_putI C (k := (o + 13)) iX2 tyX2_ok nmX2 (x_sS13 ho) rfl (j := 6) rfl (by decide) (by decide +kernel) rfl (ty := .int) (by decide +kernel) rfl rfl dX7_letMothsAct_101 ?_
                refine a_goto C dX7_letMothsAct_104 (tgt := 141) (by decide) ?_
                refine a_iinc C dX7_letMothsAct_141 2 rfl (v := (nI (i + 1))) (x_inc i) (by decide) (lst2 := [(2, .int (nI (i + 1))), (4, .int 1), (3, .int ((f_ma d o i) (o + 10) i)), (0, .ref (x_b G + 157)), (1, .ref (x_b G + o))]) rfl ?_
                refine a_goto C dX7_letMothsAct_144 (tgt := 2) (by decide) ?_
                refine a_sub (lst2 := [(2, .int (nI (i + 1))), (0, .ref (x_b G + 157)), (1, .ref (x_b G + o))]) [0, 3, 4] rfl ?_
                refine a_to (lst2 := [(2, .int (nI ((i + 1)))), (0, .ref (x_b G + 157)), (1, .ref (x_b G + o))]) (st2 := []) (d2 := f_ma d o ((i + 1))) rfl rfl (by have qa : f_at (f_ma d o i) o i = true := (decide_eq_true ⟨x_bi_nz h31, h40⟩); rw [f_ma, f_m1, if_neg (x_bi_z h58), if_pos qa, if_neg h75]) ?_
                exact ih (i + 1) (by omega) (by omega) 
  refine a_sub (lst2 := [(2, .int 0), (0, .ref (x_b G + 157)), (1, .ref (x_b G + o))]) [0, 1, 2] rfl ?_
  exact L2 (q + 1) 0 (by omega) (by omega) 

theorem f_dis_out {d : xd} {o n k : Nat} (h : k < o + 9 ∨ o + 12 < k) : f_dis d o n k = d k := by
  unfold f_dis
  rw [x_p_ne (by omega), x_r_ne2 (by omega), x_r_ne2 (by omega), x_r_ne2 (by omega)]
def f_n3 (d : xd) (o n q : Nat) : xd := f_ps (f_dis (f_ma (f_brn d o n) o q) o q) o n 4
def f_night (d : xd) (o n q : Nat) : xd := x_p (f_n3 d o n q) (o + 13) 3 (f_n3 d o n q (o + 13) 3 + 1)

set_option maxHeartbeats 4000000 in
set_option maxRecDepth 100000 in
theorem c_X7_pass (l : Launch) (G : xG) (d : xd) (o n : Nat) (ho : x_isS o) (hn : d (o + 1) 0 = nI n) (h8 : n ≤ 8) (q : Nat) (hq : d (o + 9) 0 = nI q) (h6 : q ≤ 6) : x_M G l yX7_pass wsX7_pass 4 0 0 [.ref (x_b G + 157), .ref (x_b G + o)] d (some (.int (f_cb d o n))) (f_night d o n q) := by
  have hap := x_isS_le ho
  have b1 : f_brn d o n (o + 1) 0 = nI n := by rw [f_brn_out (by omega) (by omega) (by omega) (by omega)]; exact hn
  have b9 : f_brn d o n (o + 9) 0 = nI q := by rw [f_brn_out (by omega) (by omega) (by omega) (by omega)]; exact hq
  have m1 : f_ma (f_brn d o n) o q (o + 1) 0 = nI n := by rw [f_ma_out (by omega) (by omega) (by omega) (by omega)]; exact b1
  have m9 : f_ma (f_brn d o n) o q (o + 9) 0 = nI q := by rw [f_ma_out (by omega) (by omega) (by omega) (by omega)]; exact b9
  have d1 : f_dis (f_ma (f_brn d o n) o q) o q (o + 1) 0 = nI n := by rw [f_dis_out (by omega)]; exact m1
  have iX2 : ∀ w ∈ u_ws RX2 TX2 10, w ∈ wsX7_pass := by decide +kernel
  have iX9 : ∀ w ∈ u_ws RX9 TX9 3, w ∈ wsX7_pass := by decide +kernel
  refine x_start (cc := cX7_pass) (maxL := 3) (ret := (some .int)) (own := RX7) (by decide) rfl rfl (Nat.le_of_ble_eq_true rfl) (lst := [(0, .ref (x_b G + 157)), (1, .ref (x_b G + o))]) rfl ?_
  intro p e s m args below meth c C hr hlocks
  refine a_aload_n C dX7_pass_0 0 rfl ?_
  refine a_aload_n C dX7_pass_1 1 rfl ?_
  refine a_getR C (k := o) iX9 (x_sS0 ho) rfl (j := 0) rfl (by decide) (by decide +kernel) dX7_pass_2 ?_
  refine a_aload_n C dX7_pass_5 1 rfl ?_
  refine a_getR C (k := o) iX9 (x_sS0 ho) rfl (j := 2) rfl (by decide) (by decide +kernel) dX7_pass_6 ?_
  refine a_callV C (k := 157) (As := [.ref (x_b G + (o + 1)), .ref (x_b G + (o + 13))]) (rest := []) (c_X7_burnLamps l G d o n ho hn h8) (cwV 2 C.1.2.2.2.2 gX7_pass_X7_burnLamps rfl rfl rfl (by decide +kernel) ⟨Nat.le_of_ble_eq_true rfl, Nat.le_of_ble_eq_true rfl⟩) x_k157 (q := (RX7, TX7, 1)) rfl rfl rfl rfl (Nat.le_of_ble_eq_true rfl) dX7_pass_9 ⟨Nat.le_of_ble_eq_true rfl, Nat.le_of_ble_eq_true rfl⟩ ?_
  refine a_istore_n C dX7_pass_12 (by decide) (lst2 := [(2, .int (f_cb d o n)), (0, .ref (x_b G + 157)), (1, .ref (x_b G + o))]) rfl ?_
  refine a_aload_n C dX7_pass_13 1 rfl ?_
  refine a_aload_n C dX7_pass_14 2 rfl ?_
  refine a_callV C (k := 157) (As := [.ref (x_b G + o)]) (rest := []) (c_X7_letMothsAct l G (f_brn d o n) o n ho b1 h8 q b9 h6) (cwV 1 C.1.2.2.2.2 gX7_pass_X7_letMothsAct rfl rfl rfl (by decide +kernel) ⟨Nat.le_of_ble_eq_true rfl, Nat.le_of_ble_eq_true rfl⟩) x_k157 (q := (RX7, TX7, 1)) rfl rfl rfl rfl (Nat.le_of_ble_eq_true rfl) dX7_pass_15 ⟨Nat.le_of_ble_eq_true rfl, Nat.le_of_ble_eq_true rfl⟩ ?_
  refine a_aload_n C dX7_pass_18 2 rfl ?_
  refine a_getR C (k := o) iX9 (x_sS0 ho) rfl (j := 1) rfl (by decide) (by decide +kernel) dX7_pass_19 ?_
  refine a_callV C (k := (o + 9)) (As := []) (rest := []) (c_X6_dismissStruck l G (f_ma (f_brn d o n) o q) o q ho m9 h6) (cwV 0 C.1.2.2.2.2 gX7_pass_X6_dismissStruck rfl rfl rfl (by decide +kernel) ⟨Nat.le_of_ble_eq_true rfl, Nat.le_of_ble_eq_true rfl⟩) (x_sS9 ho) (q := (RX6, TX6, 4)) rfl rfl rfl rfl (Nat.le_of_ble_eq_true rfl) dX7_pass_22 ⟨Nat.le_of_ble_eq_true rfl, Nat.le_of_ble_eq_true rfl⟩ ?_
  refine a_aload_n C dX7_pass_25 1 rfl ?_
  refine a_aload_n C dX7_pass_26 2 rfl ?_
  refine a_getR C (k := o) iX9 (x_sS0 ho) rfl (j := 0) rfl (by decide) (by decide +kernel) dX7_pass_27 ?_
  refine a_aload_n C dX7_pass_30 2 rfl ?_
  refine a_getR C (k := o) iX9 (x_sS0 ho) rfl (j := 2) rfl (by decide) (by decide +kernel) dX7_pass_31 ?_
  refine a_callV C (k := 157) (As := [.ref (x_b G + (o + 1)), .ref (x_b G + (o + 13))]) (rest := []) (c_X7_paySubsidies l G (f_dis (f_ma (f_brn d o n) o q) o q) o n ho d1 h8) (cwV 2 C.1.2.2.2.2 gX7_pass_X7_paySubsidies rfl rfl rfl (by decide +kernel) ⟨Nat.le_of_ble_eq_true rfl, Nat.le_of_ble_eq_true rfl⟩) x_k157 (q := (RX7, TX7, 1)) rfl rfl rfl rfl (Nat.le_of_ble_eq_true rfl) dX7_pass_34 ⟨Nat.le_of_ble_eq_true rfl, Nat.le_of_ble_eq_true rfl⟩ ?_
  refine a_aload_n C dX7_pass_37 2 rfl ?_
  refine a_getR C (k := o) iX9 (x_sS0 ho) rfl (j := 2) rfl (by decide) (by decide +kernel) dX7_pass_38 ?_
  refine a_dup C dX7_pass_41 rfl ?_
  refine a_getI C (k := (o + 13)) iX2 (x_sS13 ho) rfl (j := 3) rfl (by decide) (by decide +kernel) dX7_pass_42 ?_
  refine a_iconst C dX7_pass_45 (v := 1) (by decide) ?_
  refine a_iadd C dX7_pass_46 ?_
  refine a_putI C (k := (o + 13)) iX2 tyX2_ok nmX2 (x_sS13 ho) rfl (j := 3) rfl (by decide) (by decide +kernel) rfl (ty := .int) (by decide +kernel) rfl rfl dX7_pass_47 ?_
  refine a_iload_n C dX7_pass_50 0 rfl ?_
  exact a_iret C hlocks hr dX7_pass_51 rfl rfl


