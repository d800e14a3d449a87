theorem va_cpy_0 (f g : Nat → Int32) (a t : Nat) : va_cpy f g a t 0 = g := by
  funext j
  simp only [va_cpy]
  rw [if_neg (by omega)]
theorem va_cpy_s (f g : Nat → Int32) (a t i : Nat) : upd (va_cpy f g a t i) (t + i) (f (a + i)) = va_cpy f g a t (i + 1) := by
  funext j
  simp only [upd, va_cpy]
  by_cases h : j = t + i
  · subst h
    rw [if_pos rfl, if_pos (by omega)]
    congr 1
    omega
  · rw [if_neg h]
    by_cases h2 : t ≤ j ∧ j < t + i
    · rw [if_pos h2, if_pos (by omega)]
    · rw [if_neg h2, if_neg (by omega)]
def g_bg (d : xd) : xd := x_r d 177 (va_cpy (d 176) (d 177) 0 0 80)
abbrev g_th (d : xd) (k : Int32) : xd := x_p d 175 12 k
def g_kf (d : xd) : xd := x_r d 176 (va_cpy (d 177) (d 176) 0 0 80)
def g_kn (d : xd) (c : Nat) : xd := x_p (x_r d 178 (va_cpy (d 177) (d 178) 0 (c * 80) 80)) 175 3 (nI (c + 1))
def g_sh (d : xd) : Nat → Int32 := f_fill (fun j => d 178 (j + 80)) (d 178) 560
def g_ks (d : xd) : xd := x_p (x_r (x_p (x_r d 178 (g_sh d)) 175 3 7) 178 (va_cpy (d 177) (g_sh d) 0 560 80)) 175 3 8
def g_kp (d : xd) (c : Nat) : xd := if c = 8 then g_ks d else g_kn d c

set_option maxHeartbeats 1000000 in
set_option maxRecDepth 100000 in
theorem c_M_in (l : Launch) (G : xG) (d : xd) (x lo hi : Int32) : x_M G l yX12_in wsX12_in 1 0 0 [.int x, .int lo, .int hi] d (some (.int (x_bi (lo ≤ x ∧ x ≤ hi)))) d := by
  refine x_start (cc := cX12_in) (maxL := 3) (ret := (some .boolean)) (own := RX12) (by decide) rfl rfl (Nat.le_of_ble_eq_true rfl) (lst := [(0, .int x), (1, .int lo), (2, .int hi)]) rfl ?_
  intro p e s m args below meth c C hr hlocks
  refine a_iload_n C dX12_in_0 0 rfl ?_
  refine a_iload_n C dX12_in_1 1 rfl ?_
  refine a_icmp_lt C dX12_in_2 (tgt := 14) (by decide) (fun h2 => ?_) (fun h2 => ?_)
  · skip
    refine a_iconst C dX12_in_14 (v := 0) (by decide) ?_
    exact a_zret C hlocks hr rfl dX12_in_15 (x_bi_f (fun h => absurd h.1 (Int32.not_le.mpr h2))).symm rfl
  · skip
    refine a_iload_n C dX12_in_5 0 rfl ?_
    refine a_iload_n C dX12_in_6 2 rfl ?_
    refine a_icmp_gt C dX12_in_7 (tgt := 14) (by decide) (fun h7 => ?_) (fun h7 => ?_)
    · skip
      refine a_iconst C dX12_in_14 (v := 0) (by decide) ?_
      exact a_zret C hlocks hr rfl dX12_in_15 (x_bi_f (fun h => absurd h.2 (Int32.not_le.mpr h7))).symm rfl
    · skip
      refine a_iconst C dX12_in_10 (v := 1) (by decide) ?_
      refine a_goto C dX12_in_11 (tgt := 15) (by decide) ?_
      exact a_zret C hlocks hr rfl dX12_in_15 (x_bi_t ⟨Int32.not_lt.mp h2, Int32.not_lt.mp h7⟩).symm rfl

set_option maxHeartbeats 1000000 in
set_option maxRecDepth 100000 in
theorem c_M_least (l : Launch) (G : xG) (d : xd) (x y : Int32) : x_M G l yX12_least wsX12_least 1 0 0 [.int x, .int y] d (some (.int (if x < y then x else y))) d := by
  refine x_start (cc := cX12_least) (maxL := 2) (ret := (some .int)) (own := RX12) (by decide) rfl rfl (Nat.le_of_ble_eq_true rfl) (lst := [(0, .int x), (1, .int y)]) rfl ?_
  intro p e s m args below meth c C hr hlocks
  refine a_iload_n C dX12_least_0 0 rfl ?_
  refine a_iload_n C dX12_least_1 1 rfl ?_
  refine a_icmp_ge C dX12_least_2 (tgt := 9) (by decide) (fun h2 => ?_) (fun h2 => ?_)
  · skip
    refine a_iload_n C dX12_least_9 1 rfl ?_
    exact a_iret C hlocks hr dX12_least_10 (by rw [if_neg (Int32.not_lt.mpr h2)]) rfl
  · skip
    refine a_iload_n C dX12_least_5 0 rfl ?_
    refine a_goto C dX12_least_6 (tgt := 10) (by decide) ?_
    exact a_iret C hlocks hr dX12_least_10 (by rw [if_pos (Int32.not_le.mp h2)]) rfl

set_option maxHeartbeats 1000000 in
set_option maxRecDepth 100000 in
theorem c_M_done (l : Launch) (G : xG) (d : xd) (x : Int32) : x_M G l yX12_done wsX12_done 1 0 0 [.ref (x_b G + 175), .int x] d (some (.int x)) (g_th d 0) := by
  have iX12 : ∀ w ∈ u_ws RX12 TX12 16, w ∈ wsX12_done := by decide +kernel
  refine x_start (cc := cX12_done) (maxL := 2) (ret := (some .int)) (own := RX12) (by decide) rfl rfl (Nat.le_of_ble_eq_true rfl) (lst := [(0, .ref (x_b G + 175)), (1, .int x)]) rfl ?_
  intro p e s m args below meth c C hr hlocks
  refine a_aload_n C dX12_done_0 0 rfl ?_
  refine a_iconst C dX12_done_1 (v := 0) (by decide) ?_
  refine a_putI C (k := 175) iX12 tyX12_ok nmX12 x_k175 rfl (j := 12) rfl (by decide) (by decide +kernel) rfl (ty := .int) (by decide +kernel) rfl rfl dX12_done_2 ?_
  refine a_iload_n C dX12_done_5 1 rfl ?_
  exact a_iret C hlocks hr dX12_done_6 rfl rfl

set_option maxHeartbeats 1000000 in
set_option maxRecDepth 100000 in
theorem c_M_fails (l : Launch) (G : xG) (d : xd) (x : Int32) : x_M G l yX12_fails wsX12_fails 1 0 0 [.ref (x_b G + 175), .int x] d (some (.int 0)) (g_th d x) := by
  have iX12 : ∀ w ∈ u_ws RX12 TX12 16, w ∈ wsX12_fails := by decide +kernel
  refine x_start (cc := cX12_fails) (maxL := 2) (ret := (some .int)) (own := RX12) (by decide) rfl rfl (Nat.le_of_ble_eq_true rfl) (lst := [(0, .ref (x_b G + 175)), (1, .int x)]) rfl ?_
  intro p e s m args below meth c C hr hlocks
  refine a_aload_n C dX12_fails_0 0 rfl ?_
  refine a_iload_n C dX12_fails_1 1 rfl ?_
  refine a_putI C (k := 175) iX12 tyX12_ok nmX12 x_k175 rfl (j := 12) rfl (by decide) (by decide +kernel) rfl (ty := .int) (by decide +kernel) rfl rfl dX12_fails_2 ?_
  refine a_iconst C dX12_fails_5 (v := 0) (by decide) ?_
  exact a_iret C hlocks hr dX12_fails_6 rfl rfl

set_option maxHeartbeats 1000000 in
set_option maxRecDepth 100000 in
theorem c_M_thrown (l : Launch) (G : xG) (d : xd)  : x_M G l yX12_thrown wsX12_thrown 1 0 0 [.ref (x_b G + 175)] d (some (.int (d 175 12))) d := by
  have iX12 : ∀ w ∈ u_ws RX12 TX12 16, w ∈ wsX12_thrown := by decide +kernel
  refine x_start (cc := cX12_thrown) (maxL := 1) (ret := (some .int)) (own := RX12) (by decide) rfl rfl (Nat.le_of_ble_eq_true rfl) (lst := [(0, .ref (x_b G + 175))]) rfl ?_
  intro p e s m args below meth c C hr hlocks
  refine a_aload_n C dX12_thrown_0 0 rfl ?_
  refine a_getI C (k := 175) iX12 x_k175 rfl (j := 12) rfl (by decide) (by decide +kernel) dX12_thrown_1 ?_
  exact a_iret C hlocks hr dX12_thrown_4 rfl rfl

set_option maxHeartbeats 1000000 in
set_option maxRecDepth 100000 in
theorem c_M_copy (l : Launch) (G : xG) (d : xd) (k0 k1 a t L0 L1 : Nat) (hk0 : x_sh[k0]? = some (.inr (0, L0))) (hk1 : x_sh[k1]? = some (.inr (0, L1))) (hne : k0 ≠ k1) (ha : a + 80 ≤ L0) (ht : t + 80 ≤ L1) (hL0 : L0 < 1000) (hL1 : L1 < 1000) : x_M G l yX12_copy wsX12_copy 1 0 0 [.ref (x_b G + k0), .int (nI a), .ref (x_b G + k1), .int (nI t)] d none (x_r d k1 (va_cpy (d k0) (d k1) a t 80)) := by
  refine x_start (cc := cX12_copy) (maxL := 5) (ret := none) (own := RX12) (by decide) rfl rfl (Nat.le_of_ble_eq_true rfl) (lst := [(0, .ref (x_b G + k0)), (1, .int (nI a)), (2, .ref (x_b G + k1)), (3, .int (nI t))]) rfl ?_
  intro p e s m args below meth c C hr hlocks
  refine a_iconst C dX12_copy_0 (v := 0) (by decide) ?_
  refine a_istore C dX12_copy_1 (by decide) (lst2 := [(4, .int 0), (0, .ref (x_b G + k0)), (1, .int (nI a)), (2, .ref (x_b G + k1)), (3, .int (nI t))]) rfl ?_
  have L3 : ∀ (j i : Nat), i ≤ 80 → 80 < i + j → Ab G p l e (x_rm 1 0 0) s m args below meth c 5 0 0 (MQ below (x_Q G none (x_r d k1 (va_cpy (d k0) (d k1) a t 80))) args s 0 0 (x_A G)) 3 [(4, .int (nI i)), (0, .ref (x_b G + k0)), (1, .int (nI a)), (2, .ref (x_b G + k1)), (3, .int (nI t))] [] (x_r d k1 (va_cpy (d k0) (d k1) a t i)) := by
    intro j
    induction j with
    | zero => intro i h1 h2; exact absurd h2 (by omega)
    | succ j ih =>
      intro i hi hj 
      refine a_iload C dX12_copy_3 0 rfl ?_
      refine a_bipush C dX12_copy_5 (v := 80) (by decide) ?_
      refine a_icmp_ge C dX12_copy_7 (tgt := 28) (by decide) (fun h7 => ?_) (fun h7 => ?_)
      · skip
        have e := x_ge (n := 80) h7 hi (by omega)
        subst e
        exact a_vret C hlocks hr dX12_copy_28 rfl
      · skip
        have hlt := x_nge (n := 80) h7 hi
        refine a_aload_n C dX12_copy_10 3 rfl ?_
        refine a_iload_n C dX12_copy_11 4 rfl ?_
        refine a_iload C dX12_copy_12 0 rfl ?_
        refine a_iadd C dX12_copy_14 ?_
        refine a_aload_n C dX12_copy_15 1 rfl ?_
        refine a_iload_n C dX12_copy_16 2 rfl ?_
        refine a_iload C dX12_copy_17 0 rfl ?_
        refine a_iadd C dX12_copy_19 ?_
        refine a_ialdN C (k := k0) hk0 (i := a + i) (x_add2 (a := a) (b := i) rfl rfl) (by omega) (by first | decide | omega) dX12_copy_20 ?_
        refine a_top (y := (d k0 (a + i))) (by rw [x_r_ne2 (by omega)]) ?_
        refine a_iastN C (k := k1) hk1 (i := t + i) (x_add2 (a := t) (b := i) rfl rfl) (by omega) (by first | decide | omega) dX12_copy_21 ?_
        refine a_iinc C dX12_copy_22 0 rfl (v := (nI (i + 1))) (x_inc i) (by decide) (lst2 := [(4, .int (nI (i + 1))), (0, .ref (x_b G + k0)), (1, .int (nI a)), (2, .ref (x_b G + k1)), (3, .int (nI t))]) rfl ?_
        refine a_goto C dX12_copy_25 (tgt := 3) (by decide) ?_
        refine a_sub (lst2 := [(4, .int (nI (i + 1))), (0, .ref (x_b G + k0)), (1, .int (nI a)), (2, .ref (x_b G + k1)), (3, .int (nI t))]) [0, 1, 2, 3, 4] rfl ?_
        refine a_to (lst2 := [(4, .int (nI ((i + 1)))), (0, .ref (x_b G + k0)), (1, .int (nI a)), (2, .ref (x_b G + k1)), (3, .int (nI t))]) (st2 := []) (d2 := x_r d k1 (va_cpy (d k0) (d k1) a t ((i + 1)))) rfl rfl (x_p_r2 (va_cpy_s _ _ _ _ _)).symm ?_
        exact ih (i + 1) (by omega) (by omega) 
  refine a_sub (lst2 := [(4, .int 0), (0, .ref (x_b G + k0)), (1, .int (nI a)), (2, .ref (x_b G + k1)), (3, .int (nI t))]) [0, 1, 2, 3, 4] rfl ?_
  refine a_toD (d2 := x_r d k1 (va_cpy (d k0) (d k1) a t 0)) (by rw [va_cpy_0]; exact x_r_id d k1) ?_
  exact L3 (80 + 1) 0 (by omega) (by omega)

set_option maxHeartbeats 1000000 in
set_option maxRecDepth 100000 in
theorem c_M_begin (l : Launch) (G : xG) (d : xd)  : x_M G l yX12_begin wsX12_begin 2 0 0 [.ref (x_b G + 175)] d none (g_bg d) := by
  have iX12 : ∀ w ∈ u_ws RX12 TX12 16, w ∈ wsX12_begin := by decide +kernel
  refine x_start (cc := cX12_begin) (maxL := 1) (ret := none) (own := RX12) (by decide) rfl rfl (Nat.le_of_ble_eq_true rfl) (lst := [(0, .ref (x_b G + 175))]) rfl ?_
  intro p e s m args below meth c C hr hlocks
  refine a_aload_n C dX12_begin_0 0 rfl ?_
  refine a_getR C (k := 175) iX12 x_k175 rfl (j := 0) rfl (by decide) (by decide +kernel) dX12_begin_1 ?_
  refine a_iconst C dX12_begin_4 (v := 0) (by decide) ?_
  refine a_aload_n C dX12_begin_5 0 rfl ?_
  refine a_getR C (k := 175) iX12 x_k175 rfl (j := 1) rfl (by decide) (by decide +kernel) dX12_begin_6 ?_
  refine a_iconst C dX12_begin_9 (v := 0) (by decide) ?_
  refine a_callS C (As := [.ref (x_b G + 176), .int 0, .ref (x_b G + 177), .int 0]) (rest := []) (c_M_copy l G d 176 177 0 0 80 80 x_k176 x_k177 (by decide) (by omega) (by omega) (by decide) (by decide)) (va_cwS 4 C.1.2.2.2.2 gX12_begin_X12_copy rfl rfl rfl (by decide +kernel) ⟨Nat.le_of_ble_eq_true rfl, Nat.le_of_ble_eq_true rfl⟩) rfl rfl (Nat.le_of_ble_eq_true rfl) dX12_begin_10 ⟨Nat.le_of_ble_eq_true rfl, Nat.le_of_ble_eq_true rfl⟩ ?_
  exact a_vret C hlocks hr dX12_begin_13 rfl

set_option maxHeartbeats 1000000 in
set_option maxRecDepth 100000 in
theorem c_M_kept_f (l : Launch) (G : xG) (d : xd) (v : Int32) (ht : ¬ d 175 12 = 0) : x_M G l yX12_kept wsX12_kept 2 0 0 [.ref (x_b G + 175), .int v] d (some (.int 0)) (g_kf d) := by
  have iX12 : ∀ w ∈ u_ws RX12 TX12 16, w ∈ wsX12_kept := by decide +kernel
  refine x_start (cc := cX12_kept) (maxL := 3) (ret := (some .int)) (own := RX12) (by decide) rfl rfl (Nat.le_of_ble_eq_true rfl) (lst := [(0, .ref (x_b G + 175)), (1, .int v)]) rfl ?_
  intro p e s m args below meth c C hr hlocks
  refine a_aload_n C dX12_kept_0 0 rfl ?_
  refine a_getI C (k := 175) iX12 x_k175 rfl (j := 12) rfl (by decide) (by decide +kernel) dX12_kept_1 ?_
  refine a_if_eq C dX12_kept_4 (tgt := 22) (by decide) (fun h => False.elim (ht h)) (fun h4 => ?_)
  refine a_aload_n C dX12_kept_7 0 rfl ?_
  refine a_getR C (k := 175) iX12 x_k175 rfl (j := 1) rfl (by decide) (by decide +kernel) dX12_kept_8 ?_
  refine a_iconst C dX12_kept_11 (v := 0) (by decide) ?_
  refine a_aload_n C dX12_kept_12 0 rfl ?_
  refine a_getR C (k := 175) iX12 x_k175 rfl (j := 0) rfl (by decide) (by decide +kernel) dX12_kept_13 ?_
  refine a_iconst C dX12_kept_16 (v := 0) (by decide) ?_
  refine a_callS C (As := [.ref (x_b G + 177), .int 0, .ref (x_b G + 176), .int 0]) (rest := []) (c_M_copy l G d 177 176 0 0 80 80 x_k177 x_k176 (by decide) (by omega) (by omega) (by decide) (by decide)) (va_cwS 4 C.1.2.2.2.2 gX12_kept_X12_copy rfl rfl rfl (by decide +kernel) ⟨Nat.le_of_ble_eq_true rfl, Nat.le_of_ble_eq_true rfl⟩) rfl rfl (Nat.le_of_ble_eq_true rfl) dX12_kept_17 ⟨Nat.le_of_ble_eq_true rfl, Nat.le_of_ble_eq_true rfl⟩ ?_
  refine a_iconst C dX12_kept_20 (v := 0) (by decide) ?_
  exact a_iret C hlocks hr dX12_kept_21 rfl rfl

set_option maxHeartbeats 1000000 in
set_option maxRecDepth 100000 in
theorem c_M_kept_n (l : Launch) (G : xG) (d : xd) (v : Int32) (c9 : Nat) (ht : d 175 12 = 0) (hc : d 175 3 = nI c9) (h8 : c9 < 8) : x_M G l yX12_kept wsX12_kept 2 0 0 [.ref (x_b G + 175), .int v] d (some (.int v)) (g_kn d c9) := by
  have iX12 : ∀ w ∈ u_ws RX12 TX12 16, w ∈ wsX12_kept := by decide +kernel
  refine x_start (cc := cX12_kept) (maxL := 3) (ret := (some .int)) (own := RX12) (by decide) rfl rfl (Nat.le_of_ble_eq_true rfl) (lst := [(0, .ref (x_b G + 175)), (1, .int v)]) rfl ?_
  intro p e s m args below meth c C hr hlocks
  refine a_aload_n C dX12_kept_0 0 rfl ?_
  refine a_getI C (k := 175) iX12 x_k175 rfl (j := 12) rfl (by decide) (by decide +kernel) dX12_kept_1 ?_
  refine a_if_eq C dX12_kept_4 (tgt := 22) (by decide) (fun h4 => ?_) (fun h => False.elim (absurd ht h))
  refine a_aload_n C dX12_kept_22 0 rfl ?_
  refine a_getI C (k := 175) iX12 x_k175 rfl (j := 3) rfl (by decide) (by decide +kernel) dX12_kept_23 ?_
  refine a_top (y := (nI c9)) hc ?_
  refine a_bipush C dX12_kept_26 (v := 8) (by decide) ?_
  refine a_icmp_ne C dX12_kept_28 (tgt := 71) (by decide) (fun h28 => ?_) (fun h => False.elim (absurd h (fun z => by have := (nI_eq (b := 8) (by omega) (by omega)).mp z; omega)))
  refine a_aload_n C dX12_kept_71 0 rfl ?_
  refine a_getR C (k := 175) iX12 x_k175 rfl (j := 1) rfl (by decide) (by decide +kernel) dX12_kept_72 ?_
  refine a_iconst C dX12_kept_75 (v := 0) (by decide) ?_
  refine a_aload_n C dX12_kept_76 0 rfl ?_
  refine a_getR C (k := 175) iX12 x_k175 rfl (j := 2) rfl (by decide) (by decide +kernel) dX12_kept_77 ?_
  refine a_aload_n C dX12_kept_80 0 rfl ?_
  refine a_getI C (k := 175) iX12 x_k175 rfl (j := 3) rfl (by decide) (by decide +kernel) dX12_kept_81 ?_
  refine a_top (y := (nI c9)) hc ?_
  refine a_bipush C dX12_kept_84 (v := 80) (by decide) ?_
  refine a_imul C dX12_kept_86 ?_
  refine a_top (y := (nI (c9 * 80))) (pk_mul c9 80) ?_
  refine a_callS C (As := [.ref (x_b G + 177), .int 0, .ref (x_b G + 178), .int (nI (c9 * 80))]) (rest := []) (c_M_copy l G d 177 178 0 (c9 * 80) 80 640 x_k177 x_k178 (by decide) (by omega) (by omega) (by decide) (by decide)) (va_cwS 4 C.1.2.2.2.2 gX12_kept_X12_copy rfl rfl rfl (by decide +kernel) ⟨Nat.le_of_ble_eq_true rfl, Nat.le_of_ble_eq_true rfl⟩) rfl rfl (Nat.le_of_ble_eq_true rfl) dX12_kept_87 ⟨Nat.le_of_ble_eq_true rfl, Nat.le_of_ble_eq_true rfl⟩ ?_
  refine a_aload_n C dX12_kept_90 0 rfl ?_
  refine a_dup C dX12_kept_91 rfl ?_
  refine a_getI C (k := 175) iX12 x_k175 rfl (j := 3) rfl (by decide) (by decide +kernel) dX12_kept_92 ?_
  refine a_top (y := (d 175 3)) (by rw [x_r_ne2 (by omega)]) ?_
  refine a_top (y := (nI c9)) hc ?_
  refine a_iconst C dX12_kept_95 (v := 1) (by decide) ?_
  refine a_iadd C dX12_kept_96 ?_
  refine a_top (y := (nI (c9 + 1))) (nI_1 c9) ?_
  refine a_putI C (k := 175) iX12 tyX12_ok nmX12 x_k175 rfl (j := 3) rfl (by decide) (by decide +kernel) rfl (ty := .int) (by decide +kernel) rfl rfl dX12_kept_97 ?_
  refine a_iload_n C dX12_kept_100 1 rfl ?_
  exact a_iret C hlocks hr dX12_kept_101 rfl rfl

set_option maxHeartbeats 1000000 in
set_option maxRecDepth 100000 in
theorem c_M_kept_s (l : Launch) (G : xG) (d : xd) (v : Int32) (ht : d 175 12 = 0) (hc : d 175 3 = 8) : x_M G l yX12_kept wsX12_kept 2 0 0 [.ref (x_b G + 175), .int v] d (some (.int v)) (g_ks d) := by
  have iX12 : ∀ w ∈ u_ws RX12 TX12 16, w ∈ wsX12_kept := by decide +kernel
  refine x_start (cc := cX12_kept) (maxL := 3) (ret := (some .int)) (own := RX12) (by decide) rfl rfl (Nat.le_of_ble_eq_true rfl) (lst := [(0, .ref (x_b G + 175)), (1, .int v)]) rfl ?_
  intro p e s m args below meth c C hr hlocks
  refine a_aload_n C dX12_kept_0 0 rfl ?_
  refine a_getI C (k := 175) iX12 x_k175 rfl (j := 12) rfl (by decide) (by decide +kernel) dX12_kept_1 ?_
  refine a_if_eq C dX12_kept_4 (tgt := 22) (by decide) (fun h4 => ?_) (fun h => False.elim (absurd ht h))
  refine a_aload_n C dX12_kept_22 0 rfl ?_
  refine a_getI C (k := 175) iX12 x_k175 rfl (j := 3) rfl (by decide) (by decide +kernel) dX12_kept_23 ?_
  refine a_bipush C dX12_kept_26 (v := 8) (by decide) ?_
  refine a_icmp_ne C dX12_kept_28 (tgt := 71) (by decide) (fun h => False.elim (h hc)) (fun h28 => ?_)
  refine a_iconst C dX12_kept_31 (v := 0) (by decide) ?_
  refine a_istore_n C dX12_kept_32 (by decide) (lst2 := [(2, .int 0), (0, .ref (x_b G + 175)), (1, .int v)]) rfl ?_
  have L33 : ∀ (j i : Nat), i ≤ 560 → 560 < i + j → Ab G p l e (x_rm 2 0 0) s m args below meth c 3 0 0 (MQ below (x_Q G (some (.int v)) (g_ks d)) args s 0 0 (x_A G)) 33 [(2, .int (nI i)), (0, .ref (x_b G + 175)), (1, .int v)] [] (x_r d 178 (f_fill (fun j => d 178 (j + 80)) (d 178) i)) := by
    intro j
    induction j with
    | zero => intro i h1 h2; exact absurd h2 (by omega)
    | succ j ih =>
      intro i hi hj 
      refine a_iload_n C dX12_kept_33 0 rfl ?_
      refine a_sipush C dX12_kept_34 (v := 560) (by decide) ?_
      refine a_icmp_ge C dX12_kept_37 (tgt := 61) (by decide) (fun h37 => ?_) (fun h37 => ?_)
      · skip
        have e := x_ge (n := 560) h37 hi (by omega)
        have e9 := e.symm
        subst e9
        refine a_aload_n C dX12_kept_61 1 rfl ?_
        refine a_dup C dX12_kept_62 rfl ?_
        refine a_getI C (k := 175) iX12 x_k175 rfl (j := 3) rfl (by decide) (by decide +kernel) dX12_kept_63 ?_
        refine a_top (y := (d 175 3)) (by rw [x_r_ne2 (by omega)]) ?_
        refine a_top (y := 8) hc ?_
        refine a_iconst C dX12_kept_66 (v := 1) (by decide) ?_
        refine a_isub C dX12_kept_67 ?_
        refine a_top (y := 7) rfl ?_
        refine a_putI C (k := 175) iX12 tyX12_ok nmX12 x_k175 rfl (j := 3) rfl (by decide) (by decide +kernel) rfl (ty := .int) (by decide +kernel) rfl rfl dX12_kept_68 ?_
        refine a_aload_n C dX12_kept_71 1 rfl ?_
        refine a_getR C (k := 175) iX12 x_k175 rfl (j := 1) rfl (by decide) (by decide +kernel) dX12_kept_72 ?_
        refine a_iconst C dX12_kept_75 (v := 0) (by decide) ?_
        refine a_aload_n C dX12_kept_76 1 rfl ?_
        refine a_getR C (k := 175) iX12 x_k175 rfl (j := 2) rfl (by decide) (by decide +kernel) dX12_kept_77 ?_
        refine a_aload_n C dX12_kept_80 1 rfl ?_
        refine a_getI C (k := 175) iX12 x_k175 rfl (j := 3) rfl (by decide) (by decide +kernel) dX12_kept_81 ?_
        refine a_top (y := 7) (by rw [x_p_at]) ?_
        refine a_top (y := 7) rfl ?_
        refine a_bipush C dX12_kept_84 (v := 80) (by decide) ?_
        refine a_imul C dX12_kept_86 ?_
        refine a_top (y := (nI 560)) rfl ?_
        refine a_callS C (As := [.ref (x_b G + 177), .int 0, .ref (x_b G + 178), .int (nI 560)]) (rest := []) (c_M_copy l G (x_p (x_r d 178 (f_fill (fun j => d 178 (j + 80)) (d 178) 560)) 175 3 7) 177 178 0 560 80 640 x_k177 x_k178 (by decide) (by omega) (by omega) (by decide) (by decide)) (va_cwS 4 C.1.2.2.2.2 gX12_kept_X12_copy rfl rfl rfl (by decide +kernel) ⟨Nat.le_of_ble_eq_true rfl, Nat.le_of_ble_eq_true rfl⟩) rfl rfl (Nat.le_of_ble_eq_true rfl) dX12_kept_87 ⟨Nat.le_of_ble_eq_true rfl, Nat.le_of_ble_eq_true rfl⟩ ?_
        refine a_aload_n C dX12_kept_90 1 rfl ?_
        refine a_dup C dX12_kept_91 rfl ?_
        refine a_getI C (k := 175) iX12 x_k175 rfl (j := 3) rfl (by decide) (by decide +kernel) dX12_kept_92 ?_
        refine a_top (y := 7) (by rw [x_r_ne2 (by omega), x_p_at]) ?_
        refine a_top (y := 7) rfl ?_
        refine a_iconst C dX12_kept_95 (v := 1) (by decide) ?_
        refine a_iadd C dX12_kept_96 ?_
        refine a_top (y := 8) rfl ?_
        refine a_putI C (k := 175) iX12 tyX12_ok nmX12 x_k175 rfl (j := 3) rfl (by decide) (by decide +kernel) rfl (ty := .int) (by decide +kernel) rfl rfl dX12_kept_97 ?_
        refine a_iload_n C dX12_kept_100 2 rfl ?_
        exact a_iret C hlocks hr dX12_kept_101 rfl (by unfold g_ks g_sh; rw [x_p_ne (by decide), x_p_ne (by decide), x_r_ne2 (by decide), x_r_same])
      · skip
        have hlt := x_nge (n := 560) h37 hi
        refine a_aload_n C dX12_kept_40 1 rfl ?_
        refine a_getR C (k := 175) iX12 x_k175 rfl (j := 2) rfl (by decide) (by decide +kernel) dX12_kept_41 ?_
        refine a_iload_n C dX12_kept_44 0 rfl ?_
        refine a_aload_n C dX12_kept_45 1 rfl ?_
        refine a_getR C (k := 175) iX12 x_k175 rfl (j := 2) rfl (by decide) (by decide +kernel) dX12_kept_46 ?_
        refine a_iload_n C dX12_kept_49 0 rfl ?_
        refine a_bipush C dX12_kept_50 (v := 80) (by decide) ?_
        refine a_iadd C dX12_kept_52 ?_
        refine a_ialdN C (k := 178) x_k178 (i := i + 80) (x_add2 (a := i) (b := 80) rfl rfl) (by omega) (by first | decide | omega) dX12_kept_53 ?_
        refine a_top (y := (d 178 (i + 80))) (by rw [x_r_same, f_fill, if_neg (by omega)]) ?_
        refine a_iastN C (k := 178) x_k178 (i := i) rfl (by omega) (by first | decide | omega) dX12_kept_54 ?_
        refine a_iinc C dX12_kept_55 0 rfl (v := (nI (i + 1))) (x_inc i) (by decide) (lst2 := [(2, .int (nI (i + 1))), (0, .ref (x_b G + 175)), (1, .int v)]) rfl ?_
        refine a_goto C dX12_kept_58 (tgt := 33) (by decide) ?_
        refine a_sub (lst2 := [(2, .int (nI (i + 1))), (0, .ref (x_b G + 175)), (1, .int v)]) [0, 1, 2] rfl ?_
        refine a_to (lst2 := [(2, .int (nI ((i + 1)))), (0, .ref (x_b G + 175)), (1, .int v)]) (st2 := []) (d2 := x_r d 178 (f_fill (fun j => d 178 (j + 80)) (d 178) ((i + 1)))) rfl rfl (x_p_r2 (f_fill_s _ _ i)).symm ?_
        exact ih (i + 1) (by omega) (by omega) 
  refine a_sub (lst2 := [(2, .int 0), (0, .ref (x_b G + 175)), (1, .int v)]) [0, 1, 2] rfl ?_
  refine a_toD (d2 := x_r d 178 (f_fill (fun j => d 178 (j + 80)) (d 178) 0)) (by rw [f_fill_0]; exact x_r_id d 178) ?_
  exact L33 (560 + 1) 0 (by omega) (by omega)

theorem c_M_kept (l : Launch) (G : xG) (d : xd) (v : Int32) (c9 : Nat) (ht : d 175 12 = 0) (hc : d 175 3 = nI c9) (h8 : c9 ≤ 8) : x_M G l yX12_kept wsX12_kept 2 0 0 [.ref (x_b G + 175), .int v] d (some (.int v)) (g_kp d c9) := by
  unfold g_kp
  by_cases h : c9 = 8
  · subst h
    rw [if_pos rfl]
    exact c_M_kept_s l G d v ht hc
  · rw [if_neg h]
    exact c_M_kept_n l G d v c9 ht hc (by omega)
theorem x_le_pred {x : Int32} {n : Nat} (h : n < 1000) : x ≤ nI n - 1 ↔ x < nI n := by
  have e1 : (nI n).toInt = n := nI_toInt (by omega)
  have e2 : (nI n - 1).toInt = (n : Int) - 1 := by
    have := pk_sub_toInt (a := n) (b := 1) (by omega) (by omega)
    exact this
  rw [Int32.le_iff_toInt_le, Int32.lt_iff_toInt_lt, e1, e2]
  omega
theorem x_bi_iff {a b : Prop} [Decidable a] [Decidable b] (h : a ↔ b) : x_bi a = x_bi b := by
  unfold x_bi
  by_cases q : a
  · rw [if_pos q, if_pos (h.mp q)]
  · rw [if_neg q, if_neg (fun z => q (h.mpr z))]

set_option maxHeartbeats 1000000 in
set_option maxRecDepth 100000 in
theorem c_M_isLamp (l : Launch) (G : xG) (d : xd) (x : Int32) (n : Nat) (hn : d 176 0 = nI n) (h8 : n ≤ 8) : x_M G l yX12_isLamp wsX12_isLamp 2 0 0 [.ref (x_b G + 175), .int x] d (some (.int (x_bi (0 ≤ x ∧ x < nI n)))) d := by
  have iX12 : ∀ w ∈ u_ws RX12 TX12 16, w ∈ wsX12_isLamp := by decide +kernel
  refine x_start (cc := cX12_isLamp) (maxL := 2) (ret := (some .boolean)) (own := RX12) (by decide) rfl rfl (Nat.le_of_ble_eq_true rfl) (lst := [(0, .ref (x_b G + 175)), (1, .int x)]) rfl ?_
  intro p e s m args below meth c C hr hlocks
  refine a_iload_n C dX12_isLamp_0 1 rfl ?_
  refine a_iconst C dX12_isLamp_1 (v := 0) (by decide) ?_
  refine a_aload_n C dX12_isLamp_2 0 rfl ?_
  refine a_getR C (k := 175) iX12 x_k175 rfl (j := 0) rfl (by decide) (by decide +kernel) dX12_isLamp_3 ?_
  refine a_iconst C dX12_isLamp_6 (v := 0) (by decide) ?_
  refine a_ialdN C (k := 176) x_k176 (i := 0) rfl (by decide) (by first | decide | omega) dX12_isLamp_7 ?_
  refine a_top (y := (nI n)) hn ?_
  refine a_iconst C dX12_isLamp_8 (v := 1) (by decide) ?_
  refine a_isub C dX12_isLamp_9 ?_
  refine a_callS C (As := [.int x, .int 0, .int ((nI n) - 1)]) (rest := []) (c_M_in l G d x 0 (nI n - 1)) (va_cwS 3 C.1.2.2.2.2 gX12_isLamp_X12_in rfl rfl rfl (by decide +kernel) ⟨Nat.le_of_ble_eq_true rfl, Nat.le_of_ble_eq_true rfl⟩) rfl rfl (Nat.le_of_ble_eq_true rfl) dX12_isLamp_10 ⟨Nat.le_of_ble_eq_true rfl, Nat.le_of_ble_eq_true rfl⟩ ?_
  refine a_top (y := (x_bi (0 ≤ x ∧ x < nI n))) (x_bi_iff (by rw [x_le_pred (by omega)])) ?_
  exact a_zret C hlocks hr (x_nz _) dX12_isLamp_13 rfl rfl

set_option maxHeartbeats 1000000 in
set_option maxRecDepth 100000 in
theorem c_M_isMoth (l : Launch) (G : xG) (d : xd) (x : Int32) (q : Nat) (hq : d 176 1 = nI q) (h6 : q ≤ 6) : x_M G l yX12_isMoth wsX12_isMoth 2 0 0 [.ref (x_b G + 175), .int x] d (some (.int (x_bi (0 ≤ x ∧ x < nI q)))) d := by
  have iX12 : ∀ w ∈ u_ws RX12 TX12 16, w ∈ wsX12_isMoth := by decide +kernel
  refine x_start (cc := cX12_isMoth) (maxL := 2) (ret := (some .boolean)) (own := RX12) (by decide) rfl rfl (Nat.le_of_ble_eq_true rfl) (lst := [(0, .ref (x_b G + 175)), (1, .int x)]) rfl ?_
  intro p e s m args below meth c C hr hlocks
  refine a_iload_n C dX12_isMoth_0 1 rfl ?_
  refine a_iconst C dX12_isMoth_1 (v := 0) (by decide) ?_
  refine a_aload_n C dX12_isMoth_2 0 rfl ?_
  refine a_getR C (k := 175) iX12 x_k175 rfl (j := 0) rfl (by decide) (by decide +kernel) dX12_isMoth_3 ?_
  refine a_iconst C dX12_isMoth_6 (v := 1) (by decide) ?_
  refine a_ialdN C (k := 176) x_k176 (i := 1) rfl (by decide) (by first | decide | omega) dX12_isMoth_7 ?_
  refine a_top (y := (nI q)) hq ?_
  refine a_iconst C dX12_isMoth_8 (v := 1) (by decide) ?_
  refine a_isub C dX12_isMoth_9 ?_
  refine a_callS C (As := [.int x, .int 0, .int ((nI q) - 1)]) (rest := []) (c_M_in l G d x 0 (nI q - 1)) (va_cwS 3 C.1.2.2.2.2 gX12_isMoth_X12_in rfl rfl rfl (by decide +kernel) ⟨Nat.le_of_ble_eq_true rfl, Nat.le_of_ble_eq_true rfl⟩) rfl rfl (Nat.le_of_ble_eq_true rfl) dX12_isMoth_10 ⟨Nat.le_of_ble_eq_true rfl, Nat.le_of_ble_eq_true rfl⟩ ?_
  refine a_top (y := (x_bi (0 ≤ x ∧ x < nI q))) (x_bi_iff (by rw [x_le_pred (by omega)])) ?_
  exact a_zret C hlocks hr (x_nz _) dX12_isMoth_13 rfl rfl

theorem x_r_r {d : xd} {k : Nat} {f g : Nat → Int32} : x_r (x_r d k f) k g = x_r d k g := by
  funext q
  by_cases h : q = k
  · subst h; simp [x_r]
  · simp [x_r, h]
abbrev g_ok (d : xd) (f : Nat → Int32) : xd := x_p (x_r d 176 f) 175 12 0
theorem x_bi_ne {c : Prop} [Decidable c] (h : c) : ¬ x_bi c = 0 := by rw [x_bi_t h]; decide
theorem c_M_in_t (l : Launch) (G : xG) (d : xd) (x lo hi : Int32) (h : lo ≤ x ∧ x ≤ hi) : x_M G l yX12_in wsX12_in 1 0 0 [.int x, .int lo, .int hi] d (some (.int 1)) d := by
  have q := c_M_in l G d x lo hi
  rwa [x_bi_t h] at q
theorem c_M_in_f (l : Launch) (G : xG) (d : xd) (x lo hi : Int32) (h : ¬ (lo ≤ x ∧ x ≤ hi)) : x_M G l yX12_in wsX12_in 1 0 0 [.int x, .int lo, .int hi] d (some (.int 0)) d := by
  have q := c_M_in l G d x lo hi
  rwa [x_bi_f h] at q
theorem x_in {i n : Nat} (h : i < n) (hn : n < 1000) : 0 ≤ nI i ∧ nI i < nI n := ⟨nI_pos' (by omega), (nI_ltI (by omega) (by omega)).mpr h⟩
theorem c_M_isLamp_t (l : Launch) (G : xG) (d : xd) (i n : Nat) (hn : d 176 0 = nI n) (h8 : n ≤ 8) (hi : i < n) : x_M G l yX12_isLamp wsX12_isLamp 2 0 0 [.ref (x_b G + 175), .int (nI i)] d (some (.int 1)) d := by
  have q := c_M_isLamp l G d (nI i) n hn h8
  rwa [x_bi_t (x_in hi (by omega))] at q
theorem c_M_isLamp_f (l : Launch) (G : xG) (d : xd) (x : Int32) (n : Nat) (hn : d 176 0 = nI n) (h8 : n ≤ 8) (h : ¬ (0 ≤ x ∧ x < nI n)) : x_M G l yX12_isLamp wsX12_isLamp 2 0 0 [.ref (x_b G + 175), .int x] d (some (.int 0)) d := by
  have q := c_M_isLamp l G d x n hn h8
  rwa [x_bi_f h] at q
theorem c_M_isMoth_t (l : Launch) (G : xG) (d : xd) (i q : Nat) (hq : d 176 1 = nI q) (h6 : q ≤ 6) (hi : i < q) : x_M G l yX12_isMoth wsX12_isMoth 2 0 0 [.ref (x_b G + 175), .int (nI i)] d (some (.int 1)) d := by
  have z := c_M_isMoth l G d (nI i) q hq h6
  rwa [x_bi_t (x_in hi (by omega))] at z
theorem c_M_isMoth_f (l : Launch) (G : xG) (d : xd) (x : Int32) (q : Nat) (hq : d 176 1 = nI q) (h6 : q ≤ 6) (h : ¬ (0 ≤ x ∧ x < nI q)) : x_M G l yX12_isMoth wsX12_isMoth 2 0 0 [.ref (x_b G + 175), .int x] d (some (.int 0)) d := by
  have z := c_M_isMoth l G d x q hq h6
  rwa [x_bi_f h] at z

