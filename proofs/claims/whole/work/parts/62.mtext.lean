/-! the model's reading: a state is where it stands and whether it is wrong -/
def x_bb (b : Bool) : Int32 := if b = true then 1 else 0
def ms_d (d : xd) (s : Nat × Bool) : xd := x_p (x_p d 175 14 (x_bb s.2)) 175 13 (nI s.1)
theorem ms_d_13 {d : xd} {s : Nat × Bool} : ms_d d s 175 13 = nI s.1 := x_p_at
theorem ms_d_14 {d : xd} {s : Nat × Bool} : ms_d d s 175 14 = x_bb s.2 := by
  unfold ms_d
  rw [x_p_row (by omega), x_p_at]
theorem ms_d_row {d : xd} {s : Nat × Bool} {j : Nat} (h : j ≠ 13) (h2 : j ≠ 14) : ms_d d s 175 j = d 175 j := by
  unfold ms_d
  rw [x_p_row h, x_p_row h2]
theorem ms_d_out {d : xd} {s : Nat × Bool} {k : Nat} (h : k ≠ 175) : ms_d d s k = d k := by
  unfold ms_d
  rw [x_p_ne h, x_p_ne h]
theorem x_upd_comm {z : Nat → Int32} {i j : Nat} {u v : Int32} (h : i ≠ j) : upd (upd z i u) j v = upd (upd z j v) i u := by
  funext b
  by_cases e1 : b = j
  · subst e1
    rw [x_upd_at, x_upd_ne (Ne.symm h), x_upd_at]
  · rw [x_upd_ne e1]
    by_cases e2 : b = i
    · subst e2
      rw [x_upd_at, x_upd_at]
    · rw [x_upd_ne e2, x_upd_ne e2, x_upd_ne e1]
theorem x_p_swap {d : xd} {k i j : Nat} {u v : Int32} (h : i ≠ j) : x_p (x_p d k i u) k j v = x_p (x_p d k j v) k i u := by
  unfold x_p
  rw [x_r_same, x_r_r, x_r_same, x_r_r, x_upd_comm h]
theorem ms_d_ms {d : xd} {s s2 : Nat × Bool} : ms_d (ms_d d s) s2 = ms_d d s2 := by
  unfold ms_d
  rw [x_p_swap (i := 13) (j := 14) (by omega), x_p_p, x_p_p]
theorem ms_d_p {d : xd} {s : Nat × Bool} {q : Nat} : x_p (ms_d d s) 175 13 (nI q) = ms_d d (q, s.2) := x_p_p
theorem ms_d_q {d : xd} {s : Nat × Bool} {b : Bool} : x_p (ms_d d s) 175 14 (x_bb b) = ms_d d (s.1, b) := by
  unfold ms_d
  rw [x_p_swap (i := 13) (j := 14) (by omega), x_p_p]
theorem ms_d_w {d : xd} {s : Nat × Bool} {k j : Nat} {v : Int32} (h : k ≠ 175) : ms_d (x_p d k j v) s = x_p (ms_d d s) k j v := by
  unfold ms_d
  rw [x_p_comm (k := k) (k2 := 175) h, x_p_comm (k := k) (k2 := 175) h]
theorem ms_d_is {d : xd} {s : Nat × Bool} (h1 : d 175 13 = nI s.1) (h2 : d 175 14 = x_bb s.2) : d = ms_d d s := by
  unfold ms_d
  rw [← h1, ← h2]
  have e : x_p d 175 14 (d 175 14) = d := x_p_id d 175 14
  rw [e]
  exact (x_p_id d 175 13).symm
def tp_h (tx : Nat → Nat) (L pp : Nat) : Int32 := if pp < L then nI (tx pp) else -1
def ms_nd (tx : Nat → Nat) (L : Nat) (s : Nat × Bool) (c : Nat) : Nat × Bool := if s.2 = false ∧ tp_c tx L s.1 c = true then (s.1 + 1, false) else (s.1, true)
def ms_fs (tx : Nat → Nat) (L : Nat) (s : Nat × Bool) (w : Nat) : Nat × Bool := if s.2 = true then s else (tp_vp tx L s.1 w, !tp_vo tx L s.1)
def ms_fv (tx : Nat → Nat) (L : Nat) (s : Nat × Bool) (w : Nat) : Nat := if s.2 = true ∨ tp_vo tx L s.1 = false then 0 else tp_vv tx L s.1 w
theorem ms_nd_le {tx : Nat → Nat} {L : Nat} {s : Nat × Bool} {c : Nat} (h : s.1 ≤ L) : (ms_nd tx L s c).1 ≤ L := by
  unfold ms_nd
  split
  · rename_i z
    exact tp_c_lt z.2
  · exact h
theorem ms_fs_le {tx : Nat → Nat} {L : Nat} {s : Nat × Bool} {w : Nat} (h : s.1 ≤ L) : (ms_fs tx L s w).1 ≤ L := by
  unfold ms_fs
  split
  · exact h
  · exact tp_vp_le h
theorem tp_h_c {tx : Nat → Nat} {L pp a : Nat} (ht7 : ∀ j, j < L → tx j < 128) (ha : a < 1000) : tp_h tx L pp = nI a ↔ tp_c tx L pp a = true := by
  unfold tp_h tp_c
  by_cases h : pp < L
  · rw [if_pos h, decide_eq_true_eq, nI_eq (by have := ht7 pp h; omega) (by omega)]
    exact ⟨fun z => ⟨h, z⟩, fun z => z.2⟩
  · rw [if_neg h, decide_eq_true_eq]
    refine ⟨fun z => ?_, fun z => absurd z.1 h⟩
    have h2 := nI_pos' (n := a) (by omega)
    rw [← z] at h2
    exact absurd h2 (by decide)
theorem tp_h_dg {tx : Nat → Nat} {L pp : Nat} (ht7 : ∀ j, j < L → tx j < 128) : (48 ≤ tp_h tx L pp ∧ tp_h tx L pp ≤ 57) ↔ tp_dg tx L pp = true := by
  unfold tp_h tp_dg
  by_cases h : pp < L
  · have h3 := ht7 pp h
    rw [if_pos h, decide_eq_true_eq, show (48 : Int32) = nI 48 from rfl, show (57 : Int32) = nI 57 from rfl, nI_leI (by omega) (by omega), nI_leI (by omega) (by omega)]
    exact ⟨fun z => ⟨h, z⟩, fun z => z.2⟩
  · rw [if_neg h, decide_eq_true_eq]
    exact ⟨fun z => absurd z.1 (by decide), fun z => absurd z.1 h⟩
theorem x_ad0 (a : Nat) : nI a + 0 = nI a := Int32.add_zero _
theorem x_rdv2 {tx : Nat → Nat} {q i : Nat} (h : 48 ≤ tx (q + i)) : 10 * nI (tp_rd tx q i) + nI (tx (q + i)) - 48 = nI (tp_rd tx q (i + 1)) := by
  rw [show (10 : Int32) = nI 10 from rfl, show (48 : Int32) = nI 48 from rfl, pk_mul, nI_add, pk_sub (by omega), tp_rd]
  congr 1
  omega

set_option maxHeartbeats 1000000 in
set_option maxRecDepth 100000 in
theorem c_M_here (l : Launch) (G : xG) (d : xd) (tx : Nat → Nat) (L : Nat) (hL : L ≤ 60) (hln : d 175 7 = nI L) (htx : ∀ j, j < L → d 180 j = nI (tx j)) (ht7 : ∀ j, j < L → tx j < 128) (pp : Nat) (hp : d 175 13 = nI pp) (hp9 : pp < 1000)  : x_M G l yX12_here wsX12_here 1 0 0 [.ref (x_b G + 175)] d (some (.int (tp_h tx L pp))) d := by
  have iX12 : ∀ w ∈ u_ws RX12 TX12 16, w ∈ wsX12_here := by decide +kernel
  refine x_start (cc := cX12_here) (maxL := 1) (ret := (some .int)) (own := RX12) (by decide) rfl rfl (Nat.le_of_ble_eq_true rfl) (lst := [(0, .ref (x_b G + 175))]) rfl ?_
  intro p e s m args below meth c C hr hlocks
  refine a_aload_n C dX12_here_0 0 rfl ?_
  refine a_getI C (k := 175) iX12 x_k175 rfl (j := 13) rfl (by decide) (by decide +kernel) dX12_here_1 ?_
  refine a_top (y := (nI pp)) hp ?_
  refine a_aload_n C dX12_here_4 0 rfl ?_
  refine a_getI C (k := 175) iX12 x_k175 rfl (j := 7) rfl (by decide) (by decide +kernel) dX12_here_5 ?_
  refine a_top (y := (nI L)) hln ?_
  refine a_icmp_ge C dX12_here_8 (tgt := 23) (by decide) (fun h8 => ?_) (fun h8 => ?_)
  · skip
    have hge : ¬ pp < L := fun z => nI_ge z (by omega) h8
    refine a_iconst C dX12_here_23 (v := -1) (by decide) ?_
    exact a_iret C hlocks hr dX12_here_24 (by unfold tp_h; rw [if_neg hge]) rfl
  · skip
    have hlt : pp < L := Nat.lt_of_not_le (fun z => h8 (nI_le z (by omega)))
    refine a_aload_n C dX12_here_11 0 rfl ?_
    refine a_getR C (k := 175) iX12 x_k175 rfl (j := 6) rfl (by decide) (by decide +kernel) dX12_here_12 ?_
    refine a_aload_n C dX12_here_15 0 rfl ?_
    refine a_getI C (k := 175) iX12 x_k175 rfl (j := 13) rfl (by decide) (by decide +kernel) dX12_here_16 ?_
    refine a_top (y := (nI pp)) hp ?_
    refine a_caldN C (k := 180) x_k180 (i := pp) rfl (by omega) (by first | decide | omega) dX12_here_19 ?_
    refine a_top (y := (nI (tx pp))) (htx pp hlt) ?_
    refine a_goto C dX12_here_20 (tgt := 24) (by decide) ?_
    exact a_iret C hlocks hr dX12_here_24 (by unfold tp_h; rw [if_pos hlt]) rfl

set_option maxHeartbeats 1000000 in
set_option maxRecDepth 100000 in
theorem c_M_needs_w (l : Launch) (G : xG) (d : xd) (tx : Nat → Nat) (L : Nat) (hL : L ≤ 60) (hln : d 175 7 = nI L) (htx : ∀ j, j < L → d 180 j = nI (tx j)) (ht7 : ∀ j, j < L → tx j < 128) (pp : Nat) (hp : d 175 13 = nI pp) (hpL : pp ≤ L) (a : Nat) (ha : a < 1000) (hw : d 175 14 = 1) : x_M G l yX12_needs wsX12_needs 2 0 0 [.ref (x_b G + 175), .int (nI a)] d none (x_p (x_p d 175 14 1) 175 13 (nI pp)) := by
  have iX12 : ∀ w ∈ u_ws RX12 TX12 16, w ∈ wsX12_needs := by decide +kernel
  refine x_start (cc := cX12_needs) (maxL := 2) (ret := none) (own := RX12) (by decide) rfl rfl (Nat.le_of_ble_eq_true rfl) (lst := [(0, .ref (x_b G + 175)), (1, .int (nI a))]) rfl ?_
  intro p e s m args below meth c C hr hlocks
  refine a_aload_n C dX12_needs_0 0 rfl ?_
  refine a_aload_n C dX12_needs_1 0 rfl ?_
  refine a_getI C (k := 175) iX12 x_k175 rfl (j := 14) rfl (by decide) (by decide +kernel) dX12_needs_2 ?_
  refine a_top (y := 1) hw ?_
  refine a_if_ne C dX12_needs_5 (tgt := 16) (by decide) (fun _ => ?_) (fun h => absurd h (by decide))
  refine a_iconst C dX12_needs_16 (v := 1) (by decide) ?_
  refine a_goto C dX12_needs_17 (tgt := 21) (by decide) ?_
  refine a_putI C (k := 175) iX12 tyX12_ok nmX12 x_k175 rfl (j := 14) rfl (by decide) (by decide +kernel) rfl (ty := .boolean) (by decide +kernel) rfl rfl dX12_needs_21 ?_
  refine a_aload_n C dX12_needs_24 0 rfl ?_
  refine a_dup C dX12_needs_25 rfl ?_
  refine a_getI C (k := 175) iX12 x_k175 rfl (j := 13) rfl (by decide) (by decide +kernel) dX12_needs_26 ?_
  refine a_top (y := (d 175 13)) (by first | rw [x_p_row (by omega)] | rfl) ?_
  refine a_top (y := (nI pp)) hp ?_
  refine a_aload_n C dX12_needs_29 0 rfl ?_
  refine a_getI C (k := 175) iX12 x_k175 rfl (j := 14) rfl (by decide) (by decide +kernel) dX12_needs_30 ?_
  refine a_top (y := 1) (by first | rw [x_p_at] | rfl) ?_
  refine a_top (y := 1) rfl ?_
  refine a_if_eq C dX12_needs_33 (tgt := 40) (by decide) (fun h => absurd h (by decide)) (fun _ => ?_)
  refine a_iconst C dX12_needs_36 (v := 0) (by decide) ?_
  refine a_goto C dX12_needs_37 (tgt := 41) (by decide) ?_
  refine a_iadd C dX12_needs_41 ?_
  refine a_top (y := (nI pp)) (x_ad0 pp) ?_
  refine a_putI C (k := 175) iX12 tyX12_ok nmX12 x_k175 rfl (j := 13) rfl (by decide) (by decide +kernel) rfl (ty := .int) (by decide +kernel) rfl rfl dX12_needs_42 ?_
  exact a_vret C hlocks hr dX12_needs_45 rfl

set_option maxHeartbeats 1000000 in
set_option maxRecDepth 100000 in
theorem c_M_needs_t (l : Launch) (G : xG) (d : xd) (tx : Nat → Nat) (L : Nat) (hL : L ≤ 60) (hln : d 175 7 = nI L) (htx : ∀ j, j < L → d 180 j = nI (tx j)) (ht7 : ∀ j, j < L → tx j < 128) (pp : Nat) (hp : d 175 13 = nI pp) (hpL : pp ≤ L) (a : Nat) (ha : a < 1000) (hw : d 175 14 = 0) (hc : tp_c tx L pp a = true) : x_M G l yX12_needs wsX12_needs 2 0 0 [.ref (x_b G + 175), .int (nI a)] d none (x_p (x_p d 175 14 0) 175 13 (nI (pp + 1))) := by
  have iX12 : ∀ w ∈ u_ws RX12 TX12 16, w ∈ wsX12_needs := by decide +kernel
  refine x_start (cc := cX12_needs) (maxL := 2) (ret := none) (own := RX12) (by decide) rfl rfl (Nat.le_of_ble_eq_true rfl) (lst := [(0, .ref (x_b G + 175)), (1, .int (nI a))]) rfl ?_
  intro p e s m args below meth c C hr hlocks
  refine a_aload_n C dX12_needs_0 0 rfl ?_
  refine a_aload_n C dX12_needs_1 0 rfl ?_
  refine a_getI C (k := 175) iX12 x_k175 rfl (j := 14) rfl (by decide) (by decide +kernel) dX12_needs_2 ?_
  refine a_top (y := 0) hw ?_
  refine a_if_ne C dX12_needs_5 (tgt := 16) (by decide) (fun h => absurd h (by decide)) (fun _ => ?_)
  refine a_aload_n C dX12_needs_8 0 rfl ?_
  refine a_callV C (k := 175) (As := []) (rest := [.ref (x_b G + 175)]) (c_M_here l G d tx L hL hln htx ht7 pp hp (by omega)) (cwV 0 C.1.2.2.2.2 gX12_needs_X12_here rfl rfl rfl (by decide +kernel) ⟨Nat.le_of_ble_eq_true rfl, Nat.le_of_ble_eq_true rfl⟩) x_k175 (q := (RX12, TX12, 16)) rfl rfl rfl rfl (Nat.le_of_ble_eq_true rfl) dX12_needs_9 ⟨Nat.le_of_ble_eq_true rfl, Nat.le_of_ble_eq_true rfl⟩ ?_
  refine a_iload_n C dX12_needs_12 1 rfl ?_
  refine a_icmp_eq C dX12_needs_13 (tgt := 20) (by decide) (fun h13 => ?_) (fun h => False.elim (h ((tp_h_c ht7 ha).mpr hc)))
  refine a_iconst C dX12_needs_20 (v := 0) (by decide) ?_
  refine a_putI C (k := 175) iX12 tyX12_ok nmX12 x_k175 rfl (j := 14) rfl (by decide) (by decide +kernel) rfl (ty := .boolean) (by decide +kernel) rfl rfl dX12_needs_21 ?_
  refine a_aload_n C dX12_needs_24 0 rfl ?_
  refine a_dup C dX12_needs_25 rfl ?_
  refine a_getI C (k := 175) iX12 x_k175 rfl (j := 13) rfl (by decide) (by decide +kernel) dX12_needs_26 ?_
  refine a_top (y := (d 175 13)) (by first | rw [x_p_row (by omega)] | rfl) ?_
  refine a_top (y := (nI pp)) hp ?_
  refine a_aload_n C dX12_needs_29 0 rfl ?_
  refine a_getI C (k := 175) iX12 x_k175 rfl (j := 14) rfl (by decide) (by decide +kernel) dX12_needs_30 ?_
  refine a_top (y := 0) (by first | rw [x_p_at] | rfl) ?_
  refine a_top (y := 0) rfl ?_
  refine a_if_eq C dX12_needs_33 (tgt := 40) (by decide) (fun _ => ?_) (fun h => absurd h (by decide))
  refine a_iconst C dX12_needs_40 (v := 1) (by decide) ?_
  refine a_iadd C dX12_needs_41 ?_
  refine a_top (y := (nI (pp + 1))) (nI_1 pp) ?_
  refine a_putI C (k := 175) iX12 tyX12_ok nmX12 x_k175 rfl (j := 13) rfl (by decide) (by decide +kernel) rfl (ty := .int) (by decide +kernel) rfl rfl dX12_needs_42 ?_
  exact a_vret C hlocks hr dX12_needs_45 rfl

set_option maxHeartbeats 1000000 in
set_option maxRecDepth 100000 in
theorem c_M_needs_f (l : Launch) (G : xG) (d : xd) (tx : Nat → Nat) (L : Nat) (hL : L ≤ 60) (hln : d 175 7 = nI L) (htx : ∀ j, j < L → d 180 j = nI (tx j)) (ht7 : ∀ j, j < L → tx j < 128) (pp : Nat) (hp : d 175 13 = nI pp) (hpL : pp ≤ L) (a : Nat) (ha : a < 1000) (hw : d 175 14 = 0) (hc : ¬ tp_c tx L pp a = true) : x_M G l yX12_needs wsX12_needs 2 0 0 [.ref (x_b G + 175), .int (nI a)] d none (x_p (x_p d 175 14 1) 175 13 (nI pp)) := by
  have iX12 : ∀ w ∈ u_ws RX12 TX12 16, w ∈ wsX12_needs := by decide +kernel
  refine x_start (cc := cX12_needs) (maxL := 2) (ret := none) (own := RX12) (by decide) rfl rfl (Nat.le_of_ble_eq_true rfl) (lst := [(0, .ref (x_b G + 175)), (1, .int (nI a))]) rfl ?_
  intro p e s m args below meth c C hr hlocks
  refine a_aload_n C dX12_needs_0 0 rfl ?_
  refine a_aload_n C dX12_needs_1 0 rfl ?_
  refine a_getI C (k := 175) iX12 x_k175 rfl (j := 14) rfl (by decide) (by decide +kernel) dX12_needs_2 ?_
  refine a_top (y := 0) hw ?_
  refine a_if_ne C dX12_needs_5 (tgt := 16) (by decide) (fun h => absurd h (by decide)) (fun _ => ?_)
  refine a_aload_n C dX12_needs_8 0 rfl ?_
  refine a_callV C (k := 175) (As := []) (rest := [.ref (x_b G + 175)]) (c_M_here l G d tx L hL hln htx ht7 pp hp (by omega)) (cwV 0 C.1.2.2.2.2 gX12_needs_X12_here rfl rfl rfl (by decide +kernel) ⟨Nat.le_of_ble_eq_true rfl, Nat.le_of_ble_eq_true rfl⟩) x_k175 (q := (RX12, TX12, 16)) rfl rfl rfl rfl (Nat.le_of_ble_eq_true rfl) dX12_needs_9 ⟨Nat.le_of_ble_eq_true rfl, Nat.le_of_ble_eq_true rfl⟩ ?_
  refine a_iload_n C dX12_needs_12 1 rfl ?_
  refine a_icmp_eq C dX12_needs_13 (tgt := 20) (by decide) (fun h => absurd h (fun z => hc ((tp_h_c ht7 ha).mp z))) (fun h13 => ?_)
  refine a_iconst C dX12_needs_16 (v := 1) (by decide) ?_
  refine a_goto C dX12_needs_17 (tgt := 21) (by decide) ?_
  refine a_putI C (k := 175) iX12 tyX12_ok nmX12 x_k175 rfl (j := 14) rfl (by decide) (by decide +kernel) rfl (ty := .boolean) (by decide +kernel) rfl rfl dX12_needs_21 ?_
  refine a_aload_n C dX12_needs_24 0 rfl ?_
  refine a_dup C dX12_needs_25 rfl ?_
  refine a_getI C (k := 175) iX12 x_k175 rfl (j := 13) rfl (by decide) (by decide +kernel) dX12_needs_26 ?_
  refine a_top (y := (d 175 13)) (by first | rw [x_p_row (by omega)] | rfl) ?_
  refine a_top (y := (nI pp)) hp ?_
  refine a_aload_n C dX12_needs_29 0 rfl ?_
  refine a_getI C (k := 175) iX12 x_k175 rfl (j := 14) rfl (by decide) (by decide +kernel) dX12_needs_30 ?_
  refine a_top (y := 1) (by first | rw [x_p_at] | rfl) ?_
  refine a_top (y := 1) rfl ?_
  refine a_if_eq C dX12_needs_33 (tgt := 40) (by decide) (fun h => absurd h (by decide)) (fun _ => ?_)
  refine a_iconst C dX12_needs_36 (v := 0) (by decide) ?_
  refine a_goto C dX12_needs_37 (tgt := 41) (by decide) ?_
  refine a_iadd C dX12_needs_41 ?_
  refine a_top (y := (nI pp)) (x_ad0 pp) ?_
  refine a_putI C (k := 175) iX12 tyX12_ok nmX12 x_k175 rfl (j := 13) rfl (by decide) (by decide +kernel) rfl (ty := .int) (by decide +kernel) rfl rfl dX12_needs_42 ?_
  exact a_vret C hlocks hr dX12_needs_45 rfl

theorem c_M_needs (l : Launch) (G : xG) (d : xd) (tx : Nat → Nat) (L : Nat) (hL : L ≤ 60) (hln : d 175 7 = nI L) (htx : ∀ j, j < L → d 180 j = nI (tx j)) (ht7 : ∀ j, j < L → tx j < 128) (s9 : Nat × Bool) (h1 : d 175 13 = nI s9.1) (h2 : d 175 14 = x_bb s9.2) (hpL : s9.1 ≤ L) (a : Nat) (ha : a < 1000) : x_M G l yX12_needs wsX12_needs 2 0 0 [.ref (x_b G + 175), .int (nI a)] d none (ms_d d (ms_nd tx L s9 a)) := by
  obtain ⟨pp, w⟩ := s9
  unfold ms_nd ms_d
  cases w with
  | true =>
    rw [if_neg (by simp)]
    exact c_M_needs_w l G d tx L hL hln htx ht7 pp h1 hpL a ha h2
  | false =>
    by_cases hc : tp_c tx L pp a = true
    · rw [if_pos ⟨rfl, hc⟩]
      exact c_M_needs_t l G d tx L hL hln htx ht7 pp h1 hpL a ha h2 hc
    · rw [if_neg (fun z => hc z.2)]
      exact c_M_needs_f l G d tx L hL hln htx ht7 pp h1 hpL a ha h2 hc

set_option maxHeartbeats 1000000 in
set_option maxRecDepth 100000 in
theorem c_M_needsThree (l : Launch) (G : xG) (d : xd) (tx : Nat → Nat) (L : Nat) (hL : L ≤ 60) (hln : d 175 7 = nI L) (htx : ∀ j, j < L → d 180 j = nI (tx j)) (ht7 : ∀ j, j < L → tx j < 128) (s9 : Nat × Bool) (h1 : d 175 13 = nI s9.1) (h2 : d 175 14 = x_bb s9.2) (hpL : s9.1 ≤ L) (a b c9 : Nat) (ha : a < 1000) (hb : b < 1000) (hc : c9 < 1000) : x_M G l yX12_needsThree wsX12_needsThree 3 0 0 [.ref (x_b G + 175), .int (nI a), .int (nI b), .int (nI c9)] d none (ms_d d (ms_nd tx L (ms_nd tx L (ms_nd tx L s9 a) b) c9)) := by
  refine x_start (cc := cX12_needsThree) (maxL := 4) (ret := none) (own := RX12) (by decide) rfl rfl (Nat.le_of_ble_eq_true rfl) (lst := [(0, .ref (x_b G + 175)), (1, .int (nI a)), (2, .int (nI b)), (3, .int (nI c9))]) rfl ?_
  intro p e s m args below meth c C hr hlocks
  refine a_aload_n C dX12_needsThree_0 0 rfl ?_
  refine a_iload_n C dX12_needsThree_1 1 rfl ?_
  refine a_callV C (k := 175) (As := [.int (nI a)]) (rest := []) (c_M_needs l G d tx L hL hln htx ht7 s9 h1 h2 hpL a ha) (cwV 1 C.1.2.2.2.2 gX12_needsThree_X12_needs rfl rfl rfl (by decide +kernel) ⟨Nat.le_of_ble_eq_true rfl, Nat.le_of_ble_eq_true rfl⟩) x_k175 (q := (RX12, TX12, 16)) rfl rfl rfl rfl (Nat.le_of_ble_eq_true rfl) dX12_needsThree_2 ⟨Nat.le_of_ble_eq_true rfl, Nat.le_of_ble_eq_true rfl⟩ ?_
  refine a_aload_n C dX12_needsThree_5 0 rfl ?_
  refine a_iload_n C dX12_needsThree_6 2 rfl ?_
  refine a_callV C (k := 175) (As := [.int (nI b)]) (rest := []) (c_M_needs l G (ms_d d (ms_nd tx L s9 a)) tx L hL (by rw [ms_d_row (by omega) (by omega)]; exact hln) (fun j hj => by rw [ms_d_out (by omega)]; exact htx j hj) ht7 (ms_nd tx L s9 a) ms_d_13 ms_d_14 (ms_nd_le hpL) b hb) (cwV 1 C.1.2.2.2.2 gX12_needsThree_X12_needs rfl rfl rfl (by decide +kernel) ⟨Nat.le_of_ble_eq_true rfl, Nat.le_of_ble_eq_true rfl⟩) x_k175 (q := (RX12, TX12, 16)) rfl rfl rfl rfl (Nat.le_of_ble_eq_true rfl) dX12_needsThree_7 ⟨Nat.le_of_ble_eq_true rfl, Nat.le_of_ble_eq_true rfl⟩ ?_
  refine a_toD (d2 := ms_d d (ms_nd tx L (ms_nd tx L s9 a) b)) ms_d_ms ?_
  refine a_aload_n C dX12_needsThree_10 0 rfl ?_
  refine a_iload_n C dX12_needsThree_11 3 rfl ?_
  refine a_callV C (k := 175) (As := [.int (nI c9)]) (rest := []) (c_M_needs l G (ms_d d (ms_nd tx L (ms_nd tx L s9 a) b)) tx L hL (by rw [ms_d_row (by omega) (by omega)]; exact hln) (fun j hj => by rw [ms_d_out (by omega)]; exact htx j hj) ht7 (ms_nd tx L (ms_nd tx L s9 a) b) ms_d_13 ms_d_14 (ms_nd_le (ms_nd_le hpL)) c9 hc) (cwV 1 C.1.2.2.2.2 gX12_needsThree_X12_needs rfl rfl rfl (by decide +kernel) ⟨Nat.le_of_ble_eq_true rfl, Nat.le_of_ble_eq_true rfl⟩) x_k175 (q := (RX12, TX12, 16)) rfl rfl rfl rfl (Nat.le_of_ble_eq_true rfl) dX12_needsThree_12 ⟨Nat.le_of_ble_eq_true rfl, Nat.le_of_ble_eq_true rfl⟩ ?_
  refine a_toD (d2 := ms_d d (ms_nd tx L (ms_nd tx L (ms_nd tx L s9 a) b) c9)) ms_d_ms ?_
  exact a_vret C hlocks hr dX12_needsThree_15 rfl

theorem ms_nd_w {tx : Nat → Nat} {L pp c : Nat} : ms_nd tx L (pp, true) c = (pp, true) := if_neg (by simp)
theorem ms_nd_t {tx : Nat → Nat} {L pp c : Nat} (h : tp_c tx L pp c = true) : ms_nd tx L (pp, false) c = (pp + 1, false) := if_pos ⟨rfl, h⟩
theorem ms_nd_f {tx : Nat → Nat} {L pp c : Nat} (h : ¬ tp_c tx L pp c = true) : ms_nd tx L (pp, false) c = (pp, true) := if_neg (fun z => h z.2)
set_option maxHeartbeats 1000000 in
set_option maxRecDepth 100000 in
theorem c_M_figures_w (l : Launch) (G : xG) (d : xd) (tx : Nat → Nat) (L : Nat) (hL : L ≤ 60) (hln : d 175 7 = nI L) (htx : ∀ j, j < L → d 180 j = nI (tx j)) (ht7 : ∀ j, j < L → tx j < 128) (pp : Nat) (hp : d 175 13 = nI pp) (hpL : pp ≤ L) (w : Nat) (hw : w ≤ 3) (hw1 : d 175 14 = 1) : x_M G l yX12_figures wsX12_figures 3 0 0 [.ref (x_b G + 175), .int (nI w)] d (some (.int 0)) (ms_d d (pp, true)) := by
  have iX12 : ∀ w ∈ u_ws RX12 TX12 16, w ∈ wsX12_figures := by decide +kernel
  refine x_start (cc := cX12_figures) (maxL := 4) (ret := (some .int)) (own := RX12) (by decide) rfl rfl (Nat.le_of_ble_eq_true rfl) (lst := [(0, .ref (x_b G + 175)), (1, .int (nI w))]) rfl ?_
  intro p e s m args below meth c C hr hlocks
  refine a_aload_n C dX12_figures_0 0 rfl ?_
  refine a_bipush C dX12_figures_1 (v := 32) (by decide) ?_
  refine a_callV C (k := 175) (As := [.int 32]) (rest := []) (c_M_needs l G d tx L hL hln htx ht7 (pp, true) hp hw1 hpL 32 (by omega)) (cwV 1 C.1.2.2.2.2 gX12_figures_X12_needs rfl rfl rfl (by decide +kernel) ⟨Nat.le_of_ble_eq_true rfl, Nat.le_of_ble_eq_true rfl⟩) x_k175 (q := (RX12, TX12, 16)) rfl rfl rfl rfl (Nat.le_of_ble_eq_true rfl) dX12_figures_3 ⟨Nat.le_of_ble_eq_true rfl, Nat.le_of_ble_eq_true rfl⟩ ?_
  refine a_toD (d2 := ms_d d (pp, true)) (by rw [ms_nd_w]) ?_
  refine a_aload_n C dX12_figures_6 0 rfl ?_
  refine a_aload_n C dX12_figures_7 0 rfl ?_
  refine a_getI C (k := 175) iX12 x_k175 rfl (j := 14) rfl (by decide) (by decide +kernel) dX12_figures_8 ?_
  refine a_top (y := 1) ms_d_14 ?_
  refine a_if_ne C dX12_figures_11 (tgt := 28) (by decide) (fun _ => ?_) (fun h => absurd h (by decide))
  refine a_iconst C dX12_figures_28 (v := 1) (by decide) ?_
  refine a_goto C dX12_figures_29 (tgt := 33) (by decide) ?_
  refine a_putI C (k := 175) iX12 tyX12_ok nmX12 x_k175 rfl (j := 14) rfl (by decide) (by decide +kernel) rfl (ty := .boolean) (by decide +kernel) rfl rfl dX12_figures_33 ?_
  refine a_toD (d2 := ms_d d (pp, true)) (ms_d_q (b := true)) ?_
  refine a_iconst C dX12_figures_36 (v := 0) (by decide) ?_
  refine a_istore_n C dX12_figures_37 (by decide) (lst2 := [(2, .int 0), (0, .ref (x_b G + 175)), (1, .int (nI w))]) rfl ?_
  refine a_iconst C dX12_figures_38 (v := 0) (by decide) ?_
  refine a_istore_n C dX12_figures_39 (by decide) (lst2 := [(3, .int 0), (2, .int 0), (0, .ref (x_b G + 175)), (1, .int (nI w))]) rfl ?_
  refine a_aload_n C dX12_figures_40 2 rfl ?_
  refine a_getI C (k := 175) iX12 x_k175 rfl (j := 14) rfl (by decide) (by decide +kernel) dX12_figures_41 ?_
  refine a_top (y := 1) ms_d_14 ?_
  refine a_if_ne C dX12_figures_44 (tgt := 95) (by decide) (fun _ => ?_) (fun h => absurd h (by decide))
  refine a_iload_n C dX12_figures_95 1 rfl ?_
  exact a_iret C hlocks hr dX12_figures_96 rfl rfl

set_option maxHeartbeats 1000000 in
set_option maxRecDepth 100000 in
theorem c_M_figures_0 (l : Launch) (G : xG) (d : xd) (tx : Nat → Nat) (L : Nat) (hL : L ≤ 60) (hln : d 175 7 = nI L) (htx : ∀ j, j < L → d 180 j = nI (tx j)) (ht7 : ∀ j, j < L → tx j < 128) (pp : Nat) (hp : d 175 13 = nI pp) (hpL : pp ≤ L) (w : Nat) (hw : w ≤ 3) (hw1 : d 175 14 = 0) (hc : ¬ tp_c tx L pp 32 = true) : x_M G l yX12_figures wsX12_figures 3 0 0 [.ref (x_b G + 175), .int (nI w)] d (some (.int 0)) (ms_d d (pp, true)) := by
  have iX12 : ∀ w ∈ u_ws RX12 TX12 16, w ∈ wsX12_figures := by decide +kernel
  refine x_start (cc := cX12_figures) (maxL := 4) (ret := (some .int)) (own := RX12) (by decide) rfl rfl (Nat.le_of_ble_eq_true rfl) (lst := [(0, .ref (x_b G + 175)), (1, .int (nI w))]) rfl ?_
  intro p e s m args below meth c C hr hlocks
  refine a_aload_n C dX12_figures_0 0 rfl ?_
  refine a_bipush C dX12_figures_1 (v := 32) (by decide) ?_
  refine a_callV C (k := 175) (As := [.int 32]) (rest := []) (c_M_needs l G d tx L hL hln htx ht7 (pp, false) hp hw1 hpL 32 (by omega)) (cwV 1 C.1.2.2.2.2 gX12_figures_X12_needs rfl rfl rfl (by decide +kernel) ⟨Nat.le_of_ble_eq_true rfl, Nat.le_of_ble_eq_true rfl⟩) x_k175 (q := (RX12, TX12, 16)) rfl rfl rfl rfl (Nat.le_of_ble_eq_true rfl) dX12_figures_3 ⟨Nat.le_of_ble_eq_true rfl, Nat.le_of_ble_eq_true rfl⟩ ?_
  refine a_toD (d2 := ms_d d (pp, true)) (by rw [ms_nd_f hc]) ?_
  refine a_aload_n C dX12_figures_6 0 rfl ?_
  refine a_aload_n C dX12_figures_7 0 rfl ?_
  refine a_getI C (k := 175) iX12 x_k175 rfl (j := 14) rfl (by decide) (by decide +kernel) dX12_figures_8 ?_
  refine a_top (y := 1) ms_d_14 ?_
  refine a_if_ne C dX12_figures_11 (tgt := 28) (by decide) (fun _ => ?_) (fun h => absurd h (by decide))
  refine a_iconst C dX12_figures_28 (v := 1) (by decide) ?_
  refine a_goto C dX12_figures_29 (tgt := 33) (by decide) ?_
  refine a_putI C (k := 175) iX12 tyX12_ok nmX12 x_k175 rfl (j := 14) rfl (by decide) (by decide +kernel) rfl (ty := .boolean) (by decide +kernel) rfl rfl dX12_figures_33 ?_
  refine a_toD (d2 := ms_d d (pp, true)) (ms_d_q (b := true)) ?_
  refine a_iconst C dX12_figures_36 (v := 0) (by decide) ?_
  refine a_istore_n C dX12_figures_37 (by decide) (lst2 := [(2, .int 0), (0, .ref (x_b G + 175)), (1, .int (nI w))]) rfl ?_
  refine a_iconst C dX12_figures_38 (v := 0) (by decide) ?_
  refine a_istore_n C dX12_figures_39 (by decide) (lst2 := [(3, .int 0), (2, .int 0), (0, .ref (x_b G + 175)), (1, .int (nI w))]) rfl ?_
  refine a_aload_n C dX12_figures_40 2 rfl ?_
  refine a_getI C (k := 175) iX12 x_k175 rfl (j := 14) rfl (by decide) (by decide +kernel) dX12_figures_41 ?_
  refine a_top (y := 1) ms_d_14 ?_
  refine a_if_ne C dX12_figures_44 (tgt := 95) (by decide) (fun _ => ?_) (fun h => absurd h (by decide))
  refine a_iload_n C dX12_figures_95 1 rfl ?_
  exact a_iret C hlocks hr dX12_figures_96 rfl rfl

set_option maxHeartbeats 1000000 in
set_option maxRecDepth 100000 in
theorem c_M_figures_1 (l : Launch) (G : xG) (d : xd) (tx : Nat → Nat) (L : Nat) (hL : L ≤ 60) (hln : d 175 7 = nI L) (htx : ∀ j, j < L → d 180 j = nI (tx j)) (ht7 : ∀ j, j < L → tx j < 128) (pp : Nat) (hp : d 175 13 = nI pp) (hpL : pp ≤ L) (w : Nat) (hw : w ≤ 3) (hw1 : d 175 14 = 0) (hc : tp_c tx L pp 32 = true) (hd : ¬ tp_dg tx L (pp + 1) = true) : x_M G l yX12_figures wsX12_figures 3 0 0 [.ref (x_b G + 175), .int (nI w)] d (some (.int 0)) (ms_d d (pp + 1, true)) := by
  have hplt := tp_c_lt hc
  have iX12 : ∀ w ∈ u_ws RX12 TX12 16, w ∈ wsX12_figures := by decide +kernel
  refine x_start (cc := cX12_figures) (maxL := 4) (ret := (some .int)) (own := RX12) (by decide) rfl rfl (Nat.le_of_ble_eq_true rfl) (lst := [(0, .ref (x_b G + 175)), (1, .int (nI w))]) rfl ?_
  intro p e s m args below meth c C hr hlocks
  refine a_aload_n C dX12_figures_0 0 rfl ?_
  refine a_bipush C dX12_figures_1 (v := 32) (by decide) ?_
  refine a_callV C (k := 175) (As := [.int 32]) (rest := []) (c_M_needs l G d tx L hL hln htx ht7 (pp, false) hp hw1 hpL 32 (by omega)) (cwV 1 C.1.2.2.2.2 gX12_figures_X12_needs rfl rfl rfl (by decide +kernel) ⟨Nat.le_of_ble_eq_true rfl, Nat.le_of_ble_eq_true rfl⟩) x_k175 (q := (RX12, TX12, 16)) rfl rfl rfl rfl (Nat.le_of_ble_eq_true rfl) dX12_figures_3 ⟨Nat.le_of_ble_eq_true rfl, Nat.le_of_ble_eq_true rfl⟩ ?_
  refine a_toD (d2 := ms_d d (pp + 1, false)) (by rw [ms_nd_t hc]) ?_
  refine a_aload_n C dX12_figures_6 0 rfl ?_
  refine a_aload_n C dX12_figures_7 0 rfl ?_
  refine a_getI C (k := 175) iX12 x_k175 rfl (j := 14) rfl (by decide) (by decide +kernel) dX12_figures_8 ?_
  refine a_top (y := 0) ms_d_14 ?_
  refine a_if_ne C dX12_figures_11 (tgt := 28) (by decide) (fun h => absurd h (by decide)) (fun _ => ?_)
  refine a_aload_n C dX12_figures_14 0 rfl ?_
  refine a_callV C (k := 175) (As := []) (rest := [.ref (x_b G + 175)]) (c_M_here l G (ms_d d (pp + 1, false)) tx L hL (by rw [ms_d_row (by omega) (by omega)]; exact hln) (fun j hj => by rw [ms_d_out (by omega)]; exact htx j hj) ht7 (pp + 1) ms_d_13 (by omega)) (cwV 0 C.1.2.2.2.2 gX12_figures_X12_here rfl rfl rfl (by decide +kernel) ⟨Nat.le_of_ble_eq_true rfl, Nat.le_of_ble_eq_true rfl⟩) x_k175 (q := (RX12, TX12, 16)) rfl rfl rfl rfl (Nat.le_of_ble_eq_true rfl) dX12_figures_15 ⟨Nat.le_of_ble_eq_true rfl, Nat.le_of_ble_eq_true rfl⟩ ?_
  refine a_bipush C dX12_figures_18 (v := 48) (by decide) ?_
  refine a_bipush C dX12_figures_20 (v := 57) (by decide) ?_
  refine a_callS C (As := [.int (tp_h tx L (pp + 1)), .int 48, .int 57]) (rest := [.ref (x_b G + 175)]) (c_M_in_f l G (ms_d d (pp + 1, false)) (tp_h tx L (pp + 1)) 48 57 (fun z => hd ((tp_h_dg ht7).mp z))) (va_cwS 3 C.1.2.2.2.2 gX12_figures_X12_in rfl rfl rfl (by decide +kernel) ⟨Nat.le_of_ble_eq_true rfl, Nat.le_of_ble_eq_true rfl⟩) rfl rfl (Nat.le_of_ble_eq_true rfl) dX12_figures_22 ⟨Nat.le_of_ble_eq_true rfl, Nat.le_of_ble_eq_true rfl⟩ ?_
  refine a_if_ne C dX12_figures_25 (tgt := 32) (by decide) (fun h => absurd h (by decide)) (fun _ => ?_)
  refine a_iconst C dX12_figures_28 (v := 1) (by decide) ?_
  refine a_goto C dX12_figures_29 (tgt := 33) (by decide) ?_
  refine a_putI C (k := 175) iX12 tyX12_ok nmX12 x_k175 rfl (j := 14) rfl (by decide) (by decide +kernel) rfl (ty := .boolean) (by decide +kernel) rfl rfl dX12_figures_33 ?_
  refine a_toD (d2 := ms_d d (pp + 1, true)) (ms_d_q (b := true)) ?_
  refine a_iconst C dX12_figures_36 (v := 0) (by decide) ?_
  refine a_istore_n C dX12_figures_37 (by decide) (lst2 := [(2, .int 0), (0, .ref (x_b G + 175)), (1, .int (nI w))]) rfl ?_
  refine a_iconst C dX12_figures_38 (v := 0) (by decide) ?_
  refine a_istore_n C dX12_figures_39 (by decide) (lst2 := [(3, .int 0), (2, .int 0), (0, .ref (x_b G + 175)), (1, .int (nI w))]) rfl ?_
  refine a_aload_n C dX12_figures_40 2 rfl ?_
  refine a_getI C (k := 175) iX12 x_k175 rfl (j := 14) rfl (by decide) (by decide +kernel) dX12_figures_41 ?_
  refine a_top (y := 1) ms_d_14 ?_
  refine a_if_ne C dX12_figures_44 (tgt := 95) (by decide) (fun _ => ?_) (fun h => absurd h (by decide))
  refine a_iload_n C dX12_figures_95 1 rfl ?_
  exact a_iret C hlocks hr dX12_figures_96 rfl rfl

theorem x_dgv {tx : Nat → Nat} {L q i : Nat} (h : tp_dg tx L (q + i) = true) : 10 * nI (tp_rd tx q i) + tp_h tx L (q + i) - 48 = nI (tp_rd tx q (i + 1)) := by
  obtain ⟨h1, h2, h3⟩ := of_decide_eq_true h
  unfold tp_h
  rw [if_pos h1]
  exact x_rdv2 h2
set_option maxHeartbeats 1000000 in
set_option maxRecDepth 100000 in
theorem c_M_figures_2 (l : Launch) (G : xG) (d : xd) (tx : Nat → Nat) (L : Nat) (hL : L ≤ 60) (hln : d 175 7 = nI L) (htx : ∀ j, j < L → d 180 j = nI (tx j)) (ht7 : ∀ j, j < L → tx j < 128) (pp : Nat) (hp : d 175 13 = nI pp) (hpL : pp ≤ L) (w : Nat) (hw : w ≤ 3) (hw1 : d 175 14 = 0) (hc : tp_c tx L pp 32 = true) (hd : tp_dg tx L (pp + 1) = true) : x_M G l yX12_figures wsX12_figures 3 0 0 [.ref (x_b G + 175), .int (nI w)] d (some (.int (nI (tp_vv tx L pp w)))) (ms_d d (tp_vp tx L pp w, false)) := by
  have hplt := tp_c_lt hc
  have iX12 : ∀ w ∈ u_ws RX12 TX12 16, w ∈ wsX12_figures := by decide +kernel
  refine x_start (cc := cX12_figures) (maxL := 4) (ret := (some .int)) (own := RX12) (by decide) rfl rfl (Nat.le_of_ble_eq_true rfl) (lst := [(0, .ref (x_b G + 175)), (1, .int (nI w))]) rfl ?_
  intro p e s m args below meth c C hr hlocks
  refine a_aload_n C dX12_figures_0 0 rfl ?_
  refine a_bipush C dX12_figures_1 (v := 32) (by decide) ?_
  refine a_callV C (k := 175) (As := [.int 32]) (rest := []) (c_M_needs l G d tx L hL hln htx ht7 (pp, false) hp hw1 hpL 32 (by omega)) (cwV 1 C.1.2.2.2.2 gX12_figures_X12_needs rfl rfl rfl (by decide +kernel) ⟨Nat.le_of_ble_eq_true rfl, Nat.le_of_ble_eq_true rfl⟩) x_k175 (q := (RX12, TX12, 16)) rfl rfl rfl rfl (Nat.le_of_ble_eq_true rfl) dX12_figures_3 ⟨Nat.le_of_ble_eq_true rfl, Nat.le_of_ble_eq_true rfl⟩ ?_
  refine a_toD (d2 := ms_d d (pp + 1, false)) (by rw [ms_nd_t hc]) ?_
  refine a_aload_n C dX12_figures_6 0 rfl ?_
  refine a_aload_n C dX12_figures_7 0 rfl ?_
  refine a_getI C (k := 175) iX12 x_k175 rfl (j := 14) rfl (by decide) (by decide +kernel) dX12_figures_8 ?_
  refine a_top (y := 0) ms_d_14 ?_
  refine a_if_ne C dX12_figures_11 (tgt := 28) (by decide) (fun h => absurd h (by decide)) (fun _ => ?_)
  refine a_aload_n C dX12_figures_14 0 rfl ?_
  refine a_callV C (k := 175) (As := []) (rest := [.ref (x_b G + 175)]) (c_M_here l G (ms_d d (pp + 1, false)) tx L hL (by rw [ms_d_row (by omega) (by omega)]; exact hln) (fun j hj => by rw [ms_d_out (by omega)]; exact htx j hj) ht7 (pp + 1) ms_d_13 (by omega)) (cwV 0 C.1.2.2.2.2 gX12_figures_X12_here rfl rfl rfl (by decide +kernel) ⟨Nat.le_of_ble_eq_true rfl, Nat.le_of_ble_eq_true rfl⟩) x_k175 (q := (RX12, TX12, 16)) rfl rfl rfl rfl (Nat.le_of_ble_eq_true rfl) dX12_figures_15 ⟨Nat.le_of_ble_eq_true rfl, Nat.le_of_ble_eq_true rfl⟩ ?_
  refine a_bipush C dX12_figures_18 (v := 48) (by decide) ?_
  refine a_bipush C dX12_figures_20 (v := 57) (by decide) ?_
  refine a_callS C (As := [.int (tp_h tx L (pp + 1)), .int 48, .int 57]) (rest := [.ref (x_b G + 175)]) (c_M_in_t l G (ms_d d (pp + 1, false)) (tp_h tx L (pp + 1)) 48 57 ((tp_h_dg ht7).mpr hd)) (va_cwS 3 C.1.2.2.2.2 gX12_figures_X12_in rfl rfl rfl (by decide +kernel) ⟨Nat.le_of_ble_eq_true rfl, Nat.le_of_ble_eq_true rfl⟩) rfl rfl (Nat.le_of_ble_eq_true rfl) dX12_figures_22 ⟨Nat.le_of_ble_eq_true rfl, Nat.le_of_ble_eq_true rfl⟩ ?_
  refine a_if_ne C dX12_figures_25 (tgt := 32) (by decide) (fun _ => ?_) (fun h => absurd h (by decide))
  refine a_iconst C dX12_figures_32 (v := 0) (by decide) ?_
  refine a_putI C (k := 175) iX12 tyX12_ok nmX12 x_k175 rfl (j := 14) rfl (by decide) (by decide +kernel) rfl (ty := .boolean) (by decide +kernel) rfl rfl dX12_figures_33 ?_
  refine a_toD (d2 := ms_d d (pp + 1, false)) (ms_d_q (b := false)) ?_
  refine a_iconst C dX12_figures_36 (v := 0) (by decide) ?_
  refine a_istore_n C dX12_figures_37 (by decide) (lst2 := [(2, .int 0), (0, .ref (x_b G + 175)), (1, .int (nI w))]) rfl ?_
  refine a_iconst C dX12_figures_38 (v := 0) (by decide) ?_
  refine a_istore_n C dX12_figures_39 (by decide) (lst2 := [(3, .int 0), (2, .int 0), (0, .ref (x_b G + 175)), (1, .int (nI w))]) rfl ?_
  have L40 : ∀ (j i : Nat), i ≤ w → w < i + j → tp_dc tx L (pp + 1) i = i → Ab G p l e (x_rm 3 0 0) s m args below meth c 4 0 0 (MQ below (x_Q G (some (.int (nI (tp_vv tx L pp w)))) (ms_d d (tp_vp tx L pp w, false))) args s 0 0 (x_A G)) 40 [(3, .int (nI i)), (2, .int (nI (tp_rd tx (pp + 1) i))), (0, .ref (x_b G + 175)), (1, .int (nI w))] [] (ms_d d (pp + 1 + i, false)) := by
    intro j
    induction j with
    | zero => intro i h1 h2; exact absurd h2 (by omega)
    | succ j ih =>
      intro i hi hj hq
      have hin := tp_dc_in tx L (pp + 1) i
      refine a_aload_n C dX12_figures_40 2 rfl ?_
      refine a_getI C (k := 175) iX12 x_k175 rfl (j := 14) rfl (by decide) (by decide +kernel) dX12_figures_41 ?_
      refine a_top (y := 0) ms_d_14 ?_
      refine a_if_ne C dX12_figures_44 (tgt := 95) (by decide) (fun h => absurd h (by decide)) (fun _ => ?_)
      refine a_iload_n C dX12_figures_47 0 rfl ?_
      refine a_iload_n C dX12_figures_48 3 rfl ?_
      refine a_icmp_ge C dX12_figures_49 (tgt := 95) (by decide) (fun h49 => ?_) (fun h49 => ?_)
      · skip
        have e := x_ge h49 hi (by omega)
        have e9 := e.symm
        subst e9
        clear e
        refine a_iload_n C dX12_figures_95 1 rfl ?_
        exact a_iret C hlocks hr dX12_figures_96 (congrArg nI (by unfold tp_vv; rw [hq])) (congrArg (fun z => ms_d d (z, false)) (by unfold tp_vp; rw [if_pos hc, if_pos hd, hq]))
      · skip
        have hlt := x_nge h49 hi
        refine a_aload_n C dX12_figures_52 2 rfl ?_
        refine a_callV C (k := 175) (As := []) (rest := []) (c_M_here l G (ms_d d (pp + 1 + i, false)) tx L hL (by rw [ms_d_row (by omega) (by omega)]; exact hln) (fun j hj => by rw [ms_d_out (by omega)]; exact htx j hj) ht7 (pp + 1 + i) ms_d_13 (by omega)) (cwV 0 C.1.2.2.2.2 gX12_figures_X12_here rfl rfl rfl (by decide +kernel) ⟨Nat.le_of_ble_eq_true rfl, Nat.le_of_ble_eq_true rfl⟩) x_k175 (q := (RX12, TX12, 16)) rfl rfl rfl rfl (Nat.le_of_ble_eq_true rfl) dX12_figures_53 ⟨Nat.le_of_ble_eq_true rfl, Nat.le_of_ble_eq_true rfl⟩ ?_
        refine a_bipush C dX12_figures_56 (v := 48) (by decide) ?_
        refine a_bipush C dX12_figures_58 (v := 57) (by decide) ?_
        refine a_callS C (As := [.int (tp_h tx L (pp + 1 + i)), .int 48, .int 57]) (rest := []) (c_M_in l G (ms_d d (pp + 1 + i, false)) (tp_h tx L (pp + 1 + i)) 48 57) (va_cwS 3 C.1.2.2.2.2 gX12_figures_X12_in rfl rfl rfl (by decide +kernel) ⟨Nat.le_of_ble_eq_true rfl, Nat.le_of_ble_eq_true rfl⟩) rfl rfl (Nat.le_of_ble_eq_true rfl) dX12_figures_60 ⟨Nat.le_of_ble_eq_true rfl, Nat.le_of_ble_eq_true rfl⟩ ?_
        refine a_if_eq C dX12_figures_63 (tgt := 95) (by decide) (fun h63 => ?_) (fun h63 => ?_)
        · skip
          have hnd : ¬ tp_dg tx L (pp + 1 + i) = true := fun z => x_bi_z h63 ((tp_h_dg ht7).mpr z)
          refine a_iload_n C dX12_figures_95 1 rfl ?_
          exact a_iret C hlocks hr dX12_figures_96 (congrArg nI (by unfold tp_vv; rw [tp_dc_stop tx L (pp + 1) i (fun z => hnd z.2) hq w (by omega)])) (congrArg (fun z => ms_d d (z, false)) (by unfold tp_vp; rw [if_pos hc, if_pos hd, tp_dc_stop tx L (pp + 1) i (fun z => hnd z.2) hq w (by omega)]))
        · skip
          have hdg := (tp_h_dg ht7).mp (x_bi_nz h63)
          have hlt2 := (of_decide_eq_true hdg).1
          refine a_bipush C dX12_figures_66 (v := 10) (by decide) ?_
          refine a_iload_n C dX12_figures_68 1 rfl ?_
          refine a_imul C dX12_figures_69 ?_
          refine a_aload_n C dX12_figures_70 2 rfl ?_
          refine a_callV C (k := 175) (As := []) (rest := [.int (10 * (nI (tp_rd tx (pp + 1) i)))]) (c_M_here l G (ms_d d (pp + 1 + i, false)) tx L hL (by rw [ms_d_row (by omega) (by omega)]; exact hln) (fun j hj => by rw [ms_d_out (by omega)]; exact htx j hj) ht7 (pp + 1 + i) ms_d_13 (by omega)) (cwV 0 C.1.2.2.2.2 gX12_figures_X12_here rfl rfl rfl (by decide +kernel) ⟨Nat.le_of_ble_eq_true rfl, Nat.le_of_ble_eq_true rfl⟩) x_k175 (q := (RX12, TX12, 16)) rfl rfl rfl rfl (Nat.le_of_ble_eq_true rfl) dX12_figures_71 ⟨Nat.le_of_ble_eq_true rfl, Nat.le_of_ble_eq_true rfl⟩ ?_
          refine a_iadd C dX12_figures_74 ?_
          refine a_bipush C dX12_figures_75 (v := 48) (by decide) ?_
          refine a_isub C dX12_figures_77 ?_
          refine a_top (y := (nI (tp_rd tx (pp + 1) (i + 1)))) (x_dgv hdg) ?_
          refine a_istore_n C dX12_figures_78 (by decide) (lst2 := [(2, .int (nI (tp_rd tx (pp + 1) (i + 1)))), (3, .int (nI i)), (0, .ref (x_b G + 175)), (1, .int (nI w))]) rfl ?_
          refine a_aload_n C dX12_figures_79 2 rfl ?_
          refine a_dup C dX12_figures_80 rfl ?_
          refine a_getI C (k := 175) iX12 x_k175 rfl (j := 13) rfl (by decide) (by decide +kernel) dX12_figures_81 ?_
          refine a_top (y := (nI (pp + 1 + i))) ms_d_13 ?_
          refine a_iconst C dX12_figures_84 (v := 1) (by decide) ?_
          refine a_iadd C dX12_figures_85 ?_
          refine a_top (y := (nI (pp + 1 + (i + 1)))) (nI_1 _) ?_
          refine a_putI C (k := 175) iX12 tyX12_ok nmX12 x_k175 rfl (j := 13) rfl (by decide) (by decide +kernel) rfl (ty := .int) (by decide +kernel) rfl rfl dX12_figures_86 ?_
          refine a_toD (d2 := ms_d d (pp + 1 + (i + 1), false)) ms_d_p ?_
          refine a_iinc C dX12_figures_89 1 rfl (v := (nI (i + 1))) (x_inc i) (by decide) (lst2 := [(3, .int (nI (i + 1))), (2, .int (nI (tp_rd tx (pp + 1) (i + 1)))), (0, .ref (x_b G + 175)), (1, .int (nI w))]) rfl ?_
          refine a_goto C dX12_figures_92 (tgt := 40) (by decide) ?_
          refine a_sub (lst2 := [(3, .int (nI (i + 1))), (2, .int (nI (tp_rd tx (pp + 1) (i + 1)))), (0, .ref (x_b G + 175)), (1, .int (nI w))]) [0, 1, 2, 3] rfl ?_
          refine a_to (lst2 := [(3, .int (nI ((i + 1)))), (2, .int (nI (tp_rd tx (pp + 1) ((i + 1))))), (0, .ref (x_b G + 175)), (1, .int (nI w))]) (st2 := []) (d2 := ms_d d (pp + 1 + ((i + 1)), false)) rfl rfl rfl ?_
          exact ih (i + 1) (by omega) (by omega) (by rw [tp_dc, if_pos ⟨hq, hdg⟩])
  refine a_sub (lst2 := [(3, .int 0), (2, .int 0), (0, .ref (x_b G + 175)), (1, .int (nI w))]) [0, 1, 2, 3] rfl ?_
  exact L40 (w + 1) 0 (by omega) (by omega) rfl

theorem ms_fs_t {tx : Nat → Nat} {L pp w : Nat} : ms_fs tx L (pp, true) w = (pp, true) := by simp [ms_fs]
theorem ms_fv_t {tx : Nat → Nat} {L pp w : Nat} : ms_fv tx L (pp, true) w = 0 := by simp [ms_fv]
theorem ms_fs_ok {tx : Nat → Nat} {L pp w : Nat} (h : tp_vo tx L pp = true) : ms_fs tx L (pp, false) w = (tp_vp tx L pp w, false) := by simp [ms_fs, h]
theorem ms_fv_ok {tx : Nat → Nat} {L pp w : Nat} (h : tp_vo tx L pp = true) : ms_fv tx L (pp, false) w = tp_vv tx L pp w := by simp [ms_fv, h]
theorem ms_fs_no {tx : Nat → Nat} {L pp w : Nat} (h : tp_vo tx L pp = false) : ms_fs tx L (pp, false) w = (tp_vp tx L pp w, true) := by simp [ms_fs, h]
theorem ms_fv_no {tx : Nat → Nat} {L pp w : Nat} (h : tp_vo tx L pp = false) : ms_fv tx L (pp, false) w = 0 := by simp [ms_fv, h]
theorem c_M_figures (l : Launch) (G : xG) (d : xd) (tx : Nat → Nat) (L : Nat) (hL : L ≤ 60) (hln : d 175 7 = nI L) (htx : ∀ j, j < L → d 180 j = nI (tx j)) (ht7 : ∀ j, j < L → tx j < 128) (s9 : Nat × Bool) (h1 : d 175 13 = nI s9.1) (h2 : d 175 14 = x_bb s9.2) (hpL : s9.1 ≤ L) (w : Nat) (hw : w ≤ 3) : x_M G l yX12_figures wsX12_figures 3 0 0 [.ref (x_b G + 175), .int (nI w)] d (some (.int (nI (ms_fv tx L s9 w)))) (ms_d d (ms_fs tx L s9 w)) := by
  obtain ⟨pp, b⟩ := s9
  cases b with
  | true =>
    rw [ms_fs_t, ms_fv_t]
    exact c_M_figures_w l G d tx L hL hln htx ht7 pp h1 hpL w hw h2
  | false =>
    by_cases hc : tp_c tx L pp 32 = true
    · by_cases hd : tp_dg tx L (pp + 1) = true
      · have e : tp_vo tx L pp = true := x_and_to hc hd
        rw [ms_fs_ok e, ms_fv_ok e]
        exact c_M_figures_2 l G d tx L hL hln htx ht7 pp h1 hpL w hw h2 hc hd
      · have e : tp_vo tx L pp = false := by
          cases z : tp_vo tx L pp
          · rfl
          · exact absurd (x_and_of z).2 hd
        rw [ms_fs_no e, ms_fv_no e, tp_vp_1 hc hd]
        exact c_M_figures_1 l G d tx L hL hln htx ht7 pp h1 hpL w hw h2 hc hd
    · have e : tp_vo tx L pp = false := by
        cases z : tp_vo tx L pp
        · rfl
        · exact absurd (x_and_of z).1 hc
      rw [ms_fs_no e, ms_fv_no e, tp_vp_0 hc]
      exact c_M_figures_0 l G d tx L hL hln htx ht7 pp h1 hpL w hw h2 hc

set_option maxHeartbeats 1000000 in
set_option maxRecDepth 100000 in
theorem c_M_parsesO_2 (l : Launch) (G : xG) (d : xd) (tx : Nat → Nat) (L : Nat) (hL : L ≤ 60) (hln : d 175 7 = nI L) (htx : ∀ j, j < L → d 180 j = nI (tx j)) (ht7 : ∀ j, j < L → tx j < 128) (s9 : Nat × Bool) (hpL : s9.1 ≤ L) (k9 : Nat) (hk9 : k9 < 177) (hc : tp_c tx L s9.1 105 = true) : x_M G l yX12_parsesO wsX12_parsesO 4 0 0 [.ref (x_b G + 175), .int (nI k9)] (ms_d d (s9)) none (x_p (x_p (ms_d d (ms_fs tx L (ms_nd tx L (ms_nd tx L (s9) 105) 108) 3)) 182 k9 105) 182 (k9 + 1) (nI (ms_fv tx L (ms_nd tx L (ms_nd tx L (s9) 105) 108) 3))) := by
  have iX12 : ∀ w ∈ u_ws RX12 TX12 16, w ∈ wsX12_parsesO := by decide +kernel
  refine x_start (cc := cX12_parsesO) (maxL := 3) (ret := none) (own := RX12) (by decide) rfl rfl (Nat.le_of_ble_eq_true rfl) (lst := [(0, .ref (x_b G + 175)), (1, .int (nI k9))]) rfl ?_
  intro p e s m args below meth c C hr hlocks
  refine a_aload_n C dX12_parsesO_0 0 rfl ?_
  refine a_callV C (k := 175) (As := []) (rest := []) (c_M_here l G (ms_d d (s9)) tx L hL (by rw [ms_d_row (by omega) (by omega)]; exact hln) (fun j hj => by rw [ms_d_out (by omega)]; exact htx j hj) ht7 (s9).1 (by rw [ms_d_13]) (by have := hpL; omega)) (cwV 0 C.1.2.2.2.2 gX12_parsesO_X12_here rfl rfl rfl (by decide +kernel) ⟨Nat.le_of_ble_eq_true rfl, Nat.le_of_ble_eq_true rfl⟩) x_k175 (q := (RX12, TX12, 16)) rfl rfl rfl rfl (Nat.le_of_ble_eq_true rfl) dX12_parsesO_1 ⟨Nat.le_of_ble_eq_true rfl, Nat.le_of_ble_eq_true rfl⟩ ?_
  refine a_istore_n C dX12_parsesO_4 (by decide) (lst2 := [(2, .int (tp_h tx L (s9).1)), (0, .ref (x_b G + 175)), (1, .int (nI k9))]) rfl ?_
  refine a_iload_n C dX12_parsesO_5 0 rfl ?_
  refine a_bipush C dX12_parsesO_6 (v := 105) (by decide) ?_
  refine a_icmp_ne C dX12_parsesO_8 (tgt := 47) (by decide) (fun h => False.elim (h ((tp_h_c (a := 105) ht7 (by omega)).mpr hc))) (fun h8 => ?_)
  refine a_aload_n C dX12_parsesO_11 1 rfl ?_
  refine a_getR C (k := 175) iX12 x_k175 rfl (j := 15) rfl (by decide) (by decide +kernel) dX12_parsesO_12 ?_
  refine a_iload_n C dX12_parsesO_15 2 rfl ?_
  refine a_bipush C dX12_parsesO_16 (v := 105) (by decide) ?_
  refine a_iastN C (k := 182) x_k182 (i := k9) rfl (by omega) (by first | decide | omega) dX12_parsesO_18 ?_
  refine a_aload_n C dX12_parsesO_19 1 rfl ?_
  refine a_bipush C dX12_parsesO_20 (v := 105) (by decide) ?_
  refine a_callV C (k := 175) (As := [.int 105]) (rest := []) (c_M_needs l G (x_p (ms_d d (s9)) 182 k9 105) tx L hL (by rw [x_p_ne (by omega), ms_d_row (by omega) (by omega)]; exact hln) (fun j hj => by rw [x_p_ne (by omega), ms_d_out (by omega)]; exact htx j hj) ht7 (s9) (by rw [x_p_ne (by omega), ms_d_13]) (by rw [x_p_ne (by omega), ms_d_14]) hpL 105 (by omega)) (cwV 1 C.1.2.2.2.2 gX12_parsesO_X12_needs rfl rfl rfl (by decide +kernel) ⟨Nat.le_of_ble_eq_true rfl, Nat.le_of_ble_eq_true rfl⟩) x_k175 (q := (RX12, TX12, 16)) rfl rfl rfl rfl (Nat.le_of_ble_eq_true rfl) dX12_parsesO_22 ⟨Nat.le_of_ble_eq_true rfl, Nat.le_of_ble_eq_true rfl⟩ ?_
  refine a_toD (d2 := x_p (ms_d d (ms_nd tx L (s9) 105)) 182 k9 105) (by rw [ms_d_w (by omega), ms_d_ms]) ?_
  refine a_aload_n C dX12_parsesO_25 1 rfl ?_
  refine a_bipush C dX12_parsesO_26 (v := 108) (by decide) ?_
  refine a_callV C (k := 175) (As := [.int 108]) (rest := []) (c_M_needs l G (x_p (ms_d d (ms_nd tx L (s9) 105)) 182 k9 105) tx L hL (by rw [x_p_ne (by omega), ms_d_row (by omega) (by omega)]; exact hln) (fun j hj => by rw [x_p_ne (by omega), ms_d_out (by omega)]; exact htx j hj) ht7 (ms_nd tx L (s9) 105) (by rw [x_p_ne (by omega), ms_d_13]) (by rw [x_p_ne (by omega), ms_d_14]) (ms_nd_le hpL) 108 (by omega)) (cwV 1 C.1.2.2.2.2 gX12_parsesO_X12_needs rfl rfl rfl (by decide +kernel) ⟨Nat.le_of_ble_eq_true rfl, Nat.le_of_ble_eq_true rfl⟩) x_k175 (q := (RX12, TX12, 16)) rfl rfl rfl rfl (Nat.le_of_ble_eq_true rfl) dX12_parsesO_28 ⟨Nat.le_of_ble_eq_true rfl, Nat.le_of_ble_eq_true rfl⟩ ?_
  refine a_toD (d2 := x_p (ms_d d (ms_nd tx L (ms_nd tx L (s9) 105) 108)) 182 k9 105) (by rw [ms_d_w (by omega), ms_d_ms]) ?_
  refine a_aload_n C dX12_parsesO_31 1 rfl ?_
  refine a_getR C (k := 175) iX12 x_k175 rfl (j := 15) rfl (by decide) (by decide +kernel) dX12_parsesO_32 ?_
  refine a_iload_n C dX12_parsesO_35 2 rfl ?_
  refine a_iconst C dX12_parsesO_36 (v := 1) (by decide) ?_
  refine a_iadd C dX12_parsesO_37 ?_
  refine a_aload_n C dX12_parsesO_38 1 rfl ?_
  refine a_iconst C dX12_parsesO_39 (v := 3) (by decide) ?_
  refine a_callV C (k := 175) (As := [.int 3]) (rest := [.int ((nI k9) + 1), .ref (x_b G + 182)]) (c_M_figures l G (x_p (ms_d d (ms_nd tx L (ms_nd tx L (s9) 105) 108)) 182 k9 105) tx L hL (by rw [x_p_ne (by omega), ms_d_row (by omega) (by omega)]; exact hln) (fun j hj => by rw [x_p_ne (by omega), ms_d_out (by omega)]; exact htx j hj) ht7 (ms_nd tx L (ms_nd tx L (s9) 105) 108) (by rw [x_p_ne (by omega), ms_d_13]) (by rw [x_p_ne (by omega), ms_d_14]) (ms_nd_le (ms_nd_le hpL)) 3 (by omega)) (cwV 1 C.1.2.2.2.2 gX12_parsesO_X12_figures rfl rfl rfl (by decide +kernel) ⟨Nat.le_of_ble_eq_true rfl, Nat.le_of_ble_eq_true rfl⟩) x_k175 (q := (RX12, TX12, 16)) rfl rfl rfl rfl (Nat.le_of_ble_eq_true rfl) dX12_parsesO_40 ⟨Nat.le_of_ble_eq_true rfl, Nat.le_of_ble_eq_true rfl⟩ ?_
  refine a_toD (d2 := x_p (ms_d d (ms_fs tx L (ms_nd tx L (ms_nd tx L (s9) 105) 108) 3)) 182 k9 105) (by rw [ms_d_w (by omega), ms_d_ms]) ?_
  refine a_iastN C (k := 182) x_k182 (i := k9 + 1) (x_add2 (a := k9) (b := 1) rfl rfl) (by omega) (by first | decide | omega) dX12_parsesO_43 ?_
  refine a_goto C dX12_parsesO_44 (tgt := 116) (by decide) ?_
  exact a_vret C hlocks hr dX12_parsesO_116 rfl

set_option maxHeartbeats 1000000 in
set_option maxRecDepth 100000 in
theorem c_M_parsesO_7 (l : Launch) (G : xG) (d : xd) (tx : Nat → Nat) (L : Nat) (hL : L ≤ 60) (hln : d 175 7 = nI L) (htx : ∀ j, j < L → d 180 j = nI (tx j)) (ht7 : ∀ j, j < L → tx j < 128) (s9 : Nat × Bool) (hpL : s9.1 ≤ L) (k9 : Nat) (hk9 : k9 < 177) (hn : ¬ tp_c tx L s9.1 105 = true) (hc : tp_c tx L s9.1 102 = true) : x_M G l yX12_parsesO wsX12_parsesO 4 0 0 [.ref (x_b G + 175), .int (nI k9)] (ms_d d (s9)) none (x_p (x_p (ms_d d (ms_fs tx L (ms_nd tx L (ms_nd tx L (s9) 102) 102) 1)) 182 k9 102) 182 (k9 + 1) (nI (ms_fv tx L (ms_nd tx L (ms_nd tx L (s9) 102) 102) 1))) := by
  have iX12 : ∀ w ∈ u_ws RX12 TX12 16, w ∈ wsX12_parsesO := by decide +kernel
  refine x_start (cc := cX12_parsesO) (maxL := 3) (ret := none) (own := RX12) (by decide) rfl rfl (Nat.le_of_ble_eq_true rfl) (lst := [(0, .ref (x_b G + 175)), (1, .int (nI k9))]) rfl ?_
  intro p e s m args below meth c C hr hlocks
  refine a_aload_n C dX12_parsesO_0 0 rfl ?_
  refine a_callV C (k := 175) (As := []) (rest := []) (c_M_here l G (ms_d d (s9)) tx L hL (by rw [ms_d_row (by omega) (by omega)]; exact hln) (fun j hj => by rw [ms_d_out (by omega)]; exact htx j hj) ht7 (s9).1 (by rw [ms_d_13]) (by have := hpL; omega)) (cwV 0 C.1.2.2.2.2 gX12_parsesO_X12_here rfl rfl rfl (by decide +kernel) ⟨Nat.le_of_ble_eq_true rfl, Nat.le_of_ble_eq_true rfl⟩) x_k175 (q := (RX12, TX12, 16)) rfl rfl rfl rfl (Nat.le_of_ble_eq_true rfl) dX12_parsesO_1 ⟨Nat.le_of_ble_eq_true rfl, Nat.le_of_ble_eq_true rfl⟩ ?_
  refine a_istore_n C dX12_parsesO_4 (by decide) (lst2 := [(2, .int (tp_h tx L (s9).1)), (0, .ref (x_b G + 175)), (1, .int (nI k9))]) rfl ?_
  refine a_iload_n C dX12_parsesO_5 0 rfl ?_
  refine a_bipush C dX12_parsesO_6 (v := 105) (by decide) ?_
  refine a_icmp_ne C dX12_parsesO_8 (tgt := 47) (by decide) (fun h8 => ?_) (fun h => False.elim (hn ((tp_h_c (a := 105) ht7 (by omega)).mp h)))
  refine a_iload_n C dX12_parsesO_47 0 rfl ?_
  refine a_bipush C dX12_parsesO_48 (v := 102) (by decide) ?_
  refine a_icmp_ne C dX12_parsesO_50 (tgt := 89) (by decide) (fun h => False.elim (h ((tp_h_c (a := 102) ht7 (by omega)).mpr hc))) (fun h50 => ?_)
  refine a_aload_n C dX12_parsesO_53 1 rfl ?_
  refine a_getR C (k := 175) iX12 x_k175 rfl (j := 15) rfl (by decide) (by decide +kernel) dX12_parsesO_54 ?_
  refine a_iload_n C dX12_parsesO_57 2 rfl ?_
  refine a_bipush C dX12_parsesO_58 (v := 102) (by decide) ?_
  refine a_iastN C (k := 182) x_k182 (i := k9) rfl (by omega) (by first | decide | omega) dX12_parsesO_60 ?_
  refine a_aload_n C dX12_parsesO_61 1 rfl ?_
  refine a_bipush C dX12_parsesO_62 (v := 102) (by decide) ?_
  refine a_callV C (k := 175) (As := [.int 102]) (rest := []) (c_M_needs l G (x_p (ms_d d (s9)) 182 k9 102) tx L hL (by rw [x_p_ne (by omega), ms_d_row (by omega) (by omega)]; exact hln) (fun j hj => by rw [x_p_ne (by omega), ms_d_out (by omega)]; exact htx j hj) ht7 (s9) (by rw [x_p_ne (by omega), ms_d_13]) (by rw [x_p_ne (by omega), ms_d_14]) hpL 102 (by omega)) (cwV 1 C.1.2.2.2.2 gX12_parsesO_X12_needs rfl rfl rfl (by decide +kernel) ⟨Nat.le_of_ble_eq_true rfl, Nat.le_of_ble_eq_true rfl⟩) x_k175 (q := (RX12, TX12, 16)) rfl rfl rfl rfl (Nat.le_of_ble_eq_true rfl) dX12_parsesO_64 ⟨Nat.le_of_ble_eq_true rfl, Nat.le_of_ble_eq_true rfl⟩ ?_
  refine a_toD (d2 := x_p (ms_d d (ms_nd tx L (s9) 102)) 182 k9 102) (by rw [ms_d_w (by omega), ms_d_ms]) ?_
  refine a_aload_n C dX12_parsesO_67 1 rfl ?_
  refine a_bipush C dX12_parsesO_68 (v := 102) (by decide) ?_
  refine a_callV C (k := 175) (As := [.int 102]) (rest := []) (c_M_needs l G (x_p (ms_d d (ms_nd tx L (s9) 102)) 182 k9 102) tx L hL (by rw [x_p_ne (by omega), ms_d_row (by omega) (by omega)]; exact hln) (fun j hj => by rw [x_p_ne (by omega), ms_d_out (by omega)]; exact htx j hj) ht7 (ms_nd tx L (s9) 102) (by rw [x_p_ne (by omega), ms_d_13]) (by rw [x_p_ne (by omega), ms_d_14]) (ms_nd_le hpL) 102 (by omega)) (cwV 1 C.1.2.2.2.2 gX12_parsesO_X12_needs rfl rfl rfl (by decide +kernel) ⟨Nat.le_of_ble_eq_true rfl, Nat.le_of_ble_eq_true rfl⟩) x_k175 (q := (RX12, TX12, 16)) rfl rfl rfl rfl (Nat.le_of_ble_eq_true rfl) dX12_parsesO_70 ⟨Nat.le_of_ble_eq_true rfl, Nat.le_of_ble_eq_true rfl⟩ ?_
  refine a_toD (d2 := x_p (ms_d d (ms_nd tx L (ms_nd tx L (s9) 102) 102)) 182 k9 102) (by rw [ms_d_w (by omega), ms_d_ms]) ?_
  refine a_aload_n C dX12_parsesO_73 1 rfl ?_
  refine a_getR C (k := 175) iX12 x_k175 rfl (j := 15) rfl (by decide) (by decide +kernel) dX12_parsesO_74 ?_
  refine a_iload_n C dX12_parsesO_77 2 rfl ?_
  refine a_iconst C dX12_parsesO_78 (v := 1) (by decide) ?_
  refine a_iadd C dX12_parsesO_79 ?_
  refine a_aload_n C dX12_parsesO_80 1 rfl ?_
  refine a_iconst C dX12_parsesO_81 (v := 1) (by decide) ?_
  refine a_callV C (k := 175) (As := [.int 1]) (rest := [.int ((nI k9) + 1), .ref (x_b G + 182)]) (c_M_figures l G (x_p (ms_d d (ms_nd tx L (ms_nd tx L (s9) 102) 102)) 182 k9 102) tx L hL (by rw [x_p_ne (by omega), ms_d_row (by omega) (by omega)]; exact hln) (fun j hj => by rw [x_p_ne (by omega), ms_d_out (by omega)]; exact htx j hj) ht7 (ms_nd tx L (ms_nd tx L (s9) 102) 102) (by rw [x_p_ne (by omega), ms_d_13]) (by rw [x_p_ne (by omega), ms_d_14]) (ms_nd_le (ms_nd_le hpL)) 1 (by omega)) (cwV 1 C.1.2.2.2.2 gX12_parsesO_X12_figures rfl rfl rfl (by decide +kernel) ⟨Nat.le_of_ble_eq_true rfl, Nat.le_of_ble_eq_true rfl⟩) x_k175 (q := (RX12, TX12, 16)) rfl rfl rfl rfl (Nat.le_of_ble_eq_true rfl) dX12_parsesO_82 ⟨Nat.le_of_ble_eq_true rfl, Nat.le_of_ble_eq_true rfl⟩ ?_
  refine a_toD (d2 := x_p (ms_d d (ms_fs tx L (ms_nd tx L (ms_nd tx L (s9) 102) 102) 1)) 182 k9 102) (by rw [ms_d_w (by omega), ms_d_ms]) ?_
  refine a_iastN C (k := 182) x_k182 (i := k9 + 1) (x_add2 (a := k9) (b := 1) rfl rfl) (by omega) (by first | decide | omega) dX12_parsesO_85 ?_
  refine a_goto C dX12_parsesO_86 (tgt := 116) (by decide) ?_
  exact a_vret C hlocks hr dX12_parsesO_116 rfl

set_option maxHeartbeats 1000000 in
set_option maxRecDepth 100000 in
theorem c_M_parsesO_6 (l : Launch) (G : xG) (d : xd) (tx : Nat → Nat) (L : Nat) (hL : L ≤ 60) (hln : d 175 7 = nI L) (htx : ∀ j, j < L → d 180 j = nI (tx j)) (ht7 : ∀ j, j < L → tx j < 128) (s9 : Nat × Bool) (hpL : s9.1 ≤ L) (k9 : Nat) (hk9 : k9 < 177) (hn : ¬ tp_c tx L s9.1 105 = true) (hn2 : ¬ tp_c tx L s9.1 102 = true) : x_M G l yX12_parsesO wsX12_parsesO 4 0 0 [.ref (x_b G + 175), .int (nI k9)] (ms_d d (s9)) none (x_p (x_p (ms_d d (ms_fs tx L (ms_nd tx L (s9) 110) 1)) 182 k9 111) 182 (k9 + 1) (nI (ms_fv tx L (ms_nd tx L (s9) 110) 1))) := by
  have iX12 : ∀ w ∈ u_ws RX12 TX12 16, w ∈ wsX12_parsesO := by decide +kernel
  refine x_start (cc := cX12_parsesO) (maxL := 3) (ret := none) (own := RX12) (by decide) rfl rfl (Nat.le_of_ble_eq_true rfl) (lst := [(0, .ref (x_b G + 175)), (1, .int (nI k9))]) rfl ?_
  intro p e s m args below meth c C hr hlocks
  refine a_aload_n C dX12_parsesO_0 0 rfl ?_
  refine a_callV C (k := 175) (As := []) (rest := []) (c_M_here l G (ms_d d (s9)) tx L hL (by rw [ms_d_row (by omega) (by omega)]; exact hln) (fun j hj => by rw [ms_d_out (by omega)]; exact htx j hj) ht7 (s9).1 (by rw [ms_d_13]) (by have := hpL; omega)) (cwV 0 C.1.2.2.2.2 gX12_parsesO_X12_here rfl rfl rfl (by decide +kernel) ⟨Nat.le_of_ble_eq_true rfl, Nat.le_of_ble_eq_true rfl⟩) x_k175 (q := (RX12, TX12, 16)) rfl rfl rfl rfl (Nat.le_of_ble_eq_true rfl) dX12_parsesO_1 ⟨Nat.le_of_ble_eq_true rfl, Nat.le_of_ble_eq_true rfl⟩ ?_
  refine a_istore_n C dX12_parsesO_4 (by decide) (lst2 := [(2, .int (tp_h tx L (s9).1)), (0, .ref (x_b G + 175)), (1, .int (nI k9))]) rfl ?_
  refine a_iload_n C dX12_parsesO_5 0 rfl ?_
  refine a_bipush C dX12_parsesO_6 (v := 105) (by decide) ?_
  refine a_icmp_ne C dX12_parsesO_8 (tgt := 47) (by decide) (fun h8 => ?_) (fun h => False.elim (hn ((tp_h_c (a := 105) ht7 (by omega)).mp h)))
  refine a_iload_n C dX12_parsesO_47 0 rfl ?_
  refine a_bipush C dX12_parsesO_48 (v := 102) (by decide) ?_
  refine a_icmp_ne C dX12_parsesO_50 (tgt := 89) (by decide) (fun h50 => ?_) (fun h => False.elim (hn2 ((tp_h_c (a := 102) ht7 (by omega)).mp h)))
  refine a_aload_n C dX12_parsesO_89 1 rfl ?_
  refine a_getR C (k := 175) iX12 x_k175 rfl (j := 15) rfl (by decide) (by decide +kernel) dX12_parsesO_90 ?_
  refine a_iload_n C dX12_parsesO_93 2 rfl ?_
  refine a_bipush C dX12_parsesO_94 (v := 111) (by decide) ?_
  refine a_iastN C (k := 182) x_k182 (i := k9) rfl (by omega) (by first | decide | omega) dX12_parsesO_96 ?_
  refine a_aload_n C dX12_parsesO_97 1 rfl ?_
  refine a_bipush C dX12_parsesO_98 (v := 110) (by decide) ?_
  refine a_callV C (k := 175) (As := [.int 110]) (rest := []) (c_M_needs l G (x_p (ms_d d (s9)) 182 k9 111) tx L hL (by rw [x_p_ne (by omega), ms_d_row (by omega) (by omega)]; exact hln) (fun j hj => by rw [x_p_ne (by omega), ms_d_out (by omega)]; exact htx j hj) ht7 (s9) (by rw [x_p_ne (by omega), ms_d_13]) (by rw [x_p_ne (by omega), ms_d_14]) hpL 110 (by omega)) (cwV 1 C.1.2.2.2.2 gX12_parsesO_X12_needs rfl rfl rfl (by decide +kernel) ⟨Nat.le_of_ble_eq_true rfl, Nat.le_of_ble_eq_true rfl⟩) x_k175 (q := (RX12, TX12, 16)) rfl rfl rfl rfl (Nat.le_of_ble_eq_true rfl) dX12_parsesO_100 ⟨Nat.le_of_ble_eq_true rfl, Nat.le_of_ble_eq_true rfl⟩ ?_
  refine a_toD (d2 := x_p (ms_d d (ms_nd tx L (s9) 110)) 182 k9 111) (by rw [ms_d_w (by omega), ms_d_ms]) ?_
  refine a_aload_n C dX12_parsesO_103 1 rfl ?_
  refine a_getR C (k := 175) iX12 x_k175 rfl (j := 15) rfl (by decide) (by decide +kernel) dX12_parsesO_104 ?_
  refine a_iload_n C dX12_parsesO_107 2 rfl ?_
  refine a_iconst C dX12_parsesO_108 (v := 1) (by decide) ?_
  refine a_iadd C dX12_parsesO_109 ?_
  refine a_aload_n C dX12_parsesO_110 1 rfl ?_
  refine a_iconst C dX12_parsesO_111 (v := 1) (by decide) ?_
  refine a_callV C (k := 175) (As := [.int 1]) (rest := [.int ((nI k9) + 1), .ref (x_b G + 182)]) (c_M_figures l G (x_p (ms_d d (ms_nd tx L (s9) 110)) 182 k9 111) tx L hL (by rw [x_p_ne (by omega), ms_d_row (by omega) (by omega)]; exact hln) (fun j hj => by rw [x_p_ne (by omega), ms_d_out (by omega)]; exact htx j hj) ht7 (ms_nd tx L (s9) 110) (by rw [x_p_ne (by omega), ms_d_13]) (by rw [x_p_ne (by omega), ms_d_14]) (ms_nd_le hpL) 1 (by omega)) (cwV 1 C.1.2.2.2.2 gX12_parsesO_X12_figures rfl rfl rfl (by decide +kernel) ⟨Nat.le_of_ble_eq_true rfl, Nat.le_of_ble_eq_true rfl⟩) x_k175 (q := (RX12, TX12, 16)) rfl rfl rfl rfl (Nat.le_of_ble_eq_true rfl) dX12_parsesO_112 ⟨Nat.le_of_ble_eq_true rfl, Nat.le_of_ble_eq_true rfl⟩ ?_
  refine a_toD (d2 := x_p (ms_d d (ms_fs tx L (ms_nd tx L (s9) 110) 1)) 182 k9 111) (by rw [ms_d_w (by omega), ms_d_ms]) ?_
  refine a_iastN C (k := 182) x_k182 (i := k9 + 1) (x_add2 (a := k9) (b := 1) rfl rfl) (by omega) (by first | decide | omega) dX12_parsesO_115 ?_
  exact a_vret C hlocks hr dX12_parsesO_116 rfl

set_option maxHeartbeats 1000000 in
set_option maxRecDepth 100000 in
theorem c_M_parsesB_12 (l : Launch) (G : xG) (d : xd) (tx : Nat → Nat) (L : Nat) (hL : L ≤ 60) (hln : d 175 7 = nI L) (htx : ∀ j, j < L → d 180 j = nI (tx j)) (ht7 : ∀ j, j < L → tx j < 128) (s9 : Nat × Bool) (hpL : s9.1 ≤ L) (k9 : Nat) (hk9 : k9 < 177) (hc : tp_c tx L s9.1 117 = true) : x_M G l yX12_parsesB wsX12_parsesB 4 0 0 [.ref (x_b G + 175), .int (nI k9)] (ms_d d (s9)) none (x_p (x_p (x_p (ms_d d (ms_fs tx L (ms_fs tx L (ms_nd tx L (ms_nd tx L (s9) 117) 121) 1) 3)) 182 k9 117) 182 (k9 + 1) (nI (ms_fv tx L (ms_nd tx L (ms_nd tx L (s9) 117) 121) 1))) 182 (k9 + 2) (nI (ms_fv tx L (ms_fs tx L (ms_nd tx L (ms_nd tx L (s9) 117) 121) 1) 3))) := by
  have iX12 : ∀ w ∈ u_ws RX12 TX12 16, w ∈ wsX12_parsesB := by decide +kernel
  refine x_start (cc := cX12_parsesB) (maxL := 2) (ret := none) (own := RX12) (by decide) rfl rfl (Nat.le_of_ble_eq_true rfl) (lst := [(0, .ref (x_b G + 175)), (1, .int (nI k9))]) rfl ?_
  intro p e s m args below meth c C hr hlocks
  refine a_aload_n C dX12_parsesB_0 0 rfl ?_
  refine a_callV C (k := 175) (As := []) (rest := []) (c_M_here l G (ms_d d (s9)) tx L hL (by rw [ms_d_row (by omega) (by omega)]; exact hln) (fun j hj => by rw [ms_d_out (by omega)]; exact htx j hj) ht7 (s9).1 (by rw [ms_d_13]) (by have := hpL; omega)) (cwV 0 C.1.2.2.2.2 gX12_parsesB_X12_here rfl rfl rfl (by decide +kernel) ⟨Nat.le_of_ble_eq_true rfl, Nat.le_of_ble_eq_true rfl⟩) x_k175 (q := (RX12, TX12, 16)) rfl rfl rfl rfl (Nat.le_of_ble_eq_true rfl) dX12_parsesB_1 ⟨Nat.le_of_ble_eq_true rfl, Nat.le_of_ble_eq_true rfl⟩ ?_
  refine a_bipush C dX12_parsesB_4 (v := 117) (by decide) ?_
  refine a_icmp_ne C dX12_parsesB_6 (tgt := 58) (by decide) (fun h => False.elim (h ((tp_h_c (a := 117) ht7 (by omega)).mpr hc))) (fun h6 => ?_)
  refine a_aload_n C dX12_parsesB_9 0 rfl ?_
  refine a_getR C (k := 175) iX12 x_k175 rfl (j := 15) rfl (by decide) (by decide +kernel) dX12_parsesB_10 ?_
  refine a_iload_n C dX12_parsesB_13 1 rfl ?_
  refine a_bipush C dX12_parsesB_14 (v := 117) (by decide) ?_
  refine a_iastN C (k := 182) x_k182 (i := k9) rfl (by omega) (by first | decide | omega) dX12_parsesB_16 ?_
  refine a_aload_n C dX12_parsesB_17 0 rfl ?_
  refine a_bipush C dX12_parsesB_18 (v := 117) (by decide) ?_
  refine a_callV C (k := 175) (As := [.int 117]) (rest := []) (c_M_needs l G (x_p (ms_d d (s9)) 182 k9 117) tx L hL (by rw [x_p_ne (by omega), ms_d_row (by omega) (by omega)]; exact hln) (fun j hj => by rw [x_p_ne (by omega), ms_d_out (by omega)]; exact htx j hj) ht7 (s9) (by rw [x_p_ne (by omega), ms_d_13]) (by rw [x_p_ne (by omega), ms_d_14]) hpL 117 (by omega)) (cwV 1 C.1.2.2.2.2 gX12_parsesB_X12_needs rfl rfl rfl (by decide +kernel) ⟨Nat.le_of_ble_eq_true rfl, Nat.le_of_ble_eq_true rfl⟩) x_k175 (q := (RX12, TX12, 16)) rfl rfl rfl rfl (Nat.le_of_ble_eq_true rfl) dX12_parsesB_20 ⟨Nat.le_of_ble_eq_true rfl, Nat.le_of_ble_eq_true rfl⟩ ?_
  refine a_toD (d2 := x_p (ms_d d (ms_nd tx L (s9) 117)) 182 k9 117) (by rw [ms_d_w (by omega), ms_d_ms]) ?_
  refine a_aload_n C dX12_parsesB_23 0 rfl ?_
  refine a_bipush C dX12_parsesB_24 (v := 121) (by decide) ?_
  refine a_callV C (k := 175) (As := [.int 121]) (rest := []) (c_M_needs l G (x_p (ms_d d (ms_nd tx L (s9) 117)) 182 k9 117) tx L hL (by rw [x_p_ne (by omega), ms_d_row (by omega) (by omega)]; exact hln) (fun j hj => by rw [x_p_ne (by omega), ms_d_out (by omega)]; exact htx j hj) ht7 (ms_nd tx L (s9) 117) (by rw [x_p_ne (by omega), ms_d_13]) (by rw [x_p_ne (by omega), ms_d_14]) (ms_nd_le hpL) 121 (by omega)) (cwV 1 C.1.2.2.2.2 gX12_parsesB_X12_needs rfl rfl rfl (by decide +kernel) ⟨Nat.le_of_ble_eq_true rfl, Nat.le_of_ble_eq_true rfl⟩) x_k175 (q := (RX12, TX12, 16)) rfl rfl rfl rfl (Nat.le_of_ble_eq_true rfl) dX12_parsesB_26 ⟨Nat.le_of_ble_eq_true rfl, Nat.le_of_ble_eq_true rfl⟩ ?_
  refine a_toD (d2 := x_p (ms_d d (ms_nd tx L (ms_nd tx L (s9) 117) 121)) 182 k9 117) (by rw [ms_d_w (by omega), ms_d_ms]) ?_
  refine a_aload_n C dX12_parsesB_29 0 rfl ?_
  refine a_getR C (k := 175) iX12 x_k175 rfl (j := 15) rfl (by decide) (by decide +kernel) dX12_parsesB_30 ?_
  refine a_iload_n C dX12_parsesB_33 1 rfl ?_
  refine a_iconst C dX12_parsesB_34 (v := 1) (by decide) ?_
  refine a_iadd C dX12_parsesB_35 ?_
  refine a_aload_n C dX12_parsesB_36 0 rfl ?_
  refine a_iconst C dX12_parsesB_37 (v := 1) (by decide) ?_
  refine a_callV C (k := 175) (As := [.int 1]) (rest := [.int ((nI k9) + 1), .ref (x_b G + 182)]) (c_M_figures l G (x_p (ms_d d (ms_nd tx L (ms_nd tx L (s9) 117) 121)) 182 k9 117) tx L hL (by rw [x_p_ne (by omega), ms_d_row (by omega) (by omega)]; exact hln) (fun j hj => by rw [x_p_ne (by omega), ms_d_out (by omega)]; exact htx j hj) ht7 (ms_nd tx L (ms_nd tx L (s9) 117) 121) (by rw [x_p_ne (by omega), ms_d_13]) (by rw [x_p_ne (by omega), ms_d_14]) (ms_nd_le (ms_nd_le hpL)) 1 (by omega)) (cwV 1 C.1.2.2.2.2 gX12_parsesB_X12_figures rfl rfl rfl (by decide +kernel) ⟨Nat.le_of_ble_eq_true rfl, Nat.le_of_ble_eq_true rfl⟩) x_k175 (q := (RX12, TX12, 16)) rfl rfl rfl rfl (Nat.le_of_ble_eq_true rfl) dX12_parsesB_38 ⟨Nat.le_of_ble_eq_true rfl, Nat.le_of_ble_eq_true rfl⟩ ?_
  refine a_toD (d2 := x_p (ms_d d (ms_fs tx L (ms_nd tx L (ms_nd tx L (s9) 117) 121) 1)) 182 k9 117) (by rw [ms_d_w (by omega), ms_d_ms]) ?_
  refine a_iastN C (k := 182) x_k182 (i := k9 + 1) (x_add2 (a := k9) (b := 1) rfl rfl) (by omega) (by first | decide | omega) dX12_parsesB_41 ?_
  refine a_aload_n C dX12_parsesB_42 0 rfl ?_
  refine a_getR C (k := 175) iX12 x_k175 rfl (j := 15) rfl (by decide) (by decide +kernel) dX12_parsesB_43 ?_
  refine a_iload_n C dX12_parsesB_46 1 rfl ?_
  refine a_iconst C dX12_parsesB_47 (v := 2) (by decide) ?_
  refine a_iadd C dX12_parsesB_48 ?_
  refine a_aload_n C dX12_parsesB_49 0 rfl ?_
  refine a_iconst C dX12_parsesB_50 (v := 3) (by decide) ?_
  refine a_callV C (k := 175) (As := [.int 3]) (rest := [.int ((nI k9) + 2), .ref (x_b G + 182)]) (c_M_figures l G (x_p (x_p (ms_d d (ms_fs tx L (ms_nd tx L (ms_nd tx L (s9) 117) 121) 1)) 182 k9 117) 182 (k9 + 1) (nI (ms_fv tx L (ms_nd tx L (ms_nd tx L (s9) 117) 121) 1))) tx L hL (by rw [x_p_ne (by omega), x_p_ne (by omega), ms_d_row (by omega) (by omega)]; exact hln) (fun j hj => by rw [x_p_ne (by omega), x_p_ne (by omega), ms_d_out (by omega)]; exact htx j hj) ht7 (ms_fs tx L (ms_nd tx L (ms_nd tx L (s9) 117) 121) 1) (by rw [x_p_ne (by omega), x_p_ne (by omega), ms_d_13]) (by rw [x_p_ne (by omega), x_p_ne (by omega), ms_d_14]) (ms_fs_le (ms_nd_le (ms_nd_le hpL))) 3 (by omega)) (cwV 1 C.1.2.2.2.2 gX12_parsesB_X12_figures rfl rfl rfl (by decide +kernel) ⟨Nat.le_of_ble_eq_true rfl, Nat.le_of_ble_eq_true rfl⟩) x_k175 (q := (RX12, TX12, 16)) rfl rfl rfl rfl (Nat.le_of_ble_eq_true rfl) dX12_parsesB_51 ⟨Nat.le_of_ble_eq_true rfl, Nat.le_of_ble_eq_true rfl⟩ ?_
  refine a_toD (d2 := x_p (x_p (ms_d d (ms_fs tx L (ms_fs tx L (ms_nd tx L (ms_nd tx L (s9) 117) 121) 1) 3)) 182 k9 117) 182 (k9 + 1) (nI (ms_fv tx L (ms_nd tx L (ms_nd tx L (s9) 117) 121) 1))) (by rw [ms_d_w (by omega), ms_d_w (by omega), ms_d_ms]) ?_
  refine a_iastN C (k := 182) x_k182 (i := k9 + 2) (x_add2 (a := k9) (b := 2) rfl rfl) (by omega) (by first | decide | omega) dX12_parsesB_54 ?_
  refine a_goto C dX12_parsesB_55 (tgt := 114) (by decide) ?_
  exact a_vret C hlocks hr dX12_parsesB_114 rfl

set_option maxHeartbeats 1000000 in
set_option maxRecDepth 100000 in
theorem c_M_parsesB_5 (l : Launch) (G : xG) (d : xd) (tx : Nat → Nat) (L : Nat) (hL : L ≤ 60) (hln : d 175 7 = nI L) (htx : ∀ j, j < L → d 180 j = nI (tx j)) (ht7 : ∀ j, j < L → tx j < 128) (s9 : Nat × Bool) (hpL : s9.1 ≤ L) (k9 : Nat) (hk9 : k9 < 177) (hn : ¬ tp_c tx L s9.1 117 = true) : x_M G l yX12_parsesB wsX12_parsesB 4 0 0 [.ref (x_b G + 175), .int (nI k9)] (ms_d d (s9)) none (x_p (x_p (x_p (ms_d d (ms_fs tx L (ms_fs tx L (ms_nd tx L (ms_nd tx L (ms_nd tx L (ms_nd tx L (ms_nd tx L (s9) 114) 105) 103) 104) 116) 1) 1)) 182 k9 98) 182 (k9 + 1) (nI (ms_fv tx L (ms_nd tx L (ms_nd tx L (ms_nd tx L (ms_nd tx L (ms_nd tx L (s9) 114) 105) 103) 104) 116) 1))) 182 (k9 + 2) (nI (ms_fv tx L (ms_fs tx L (ms_nd tx L (ms_nd tx L (ms_nd tx L (ms_nd tx L (ms_nd tx L (s9) 114) 105) 103) 104) 116) 1) 1))) := by
  have iX12 : ∀ w ∈ u_ws RX12 TX12 16, w ∈ wsX12_parsesB := by decide +kernel
  refine x_start (cc := cX12_parsesB) (maxL := 2) (ret := none) (own := RX12) (by decide) rfl rfl (Nat.le_of_ble_eq_true rfl) (lst := [(0, .ref (x_b G + 175)), (1, .int (nI k9))]) rfl ?_
  intro p e s m args below meth c C hr hlocks
  refine a_aload_n C dX12_parsesB_0 0 rfl ?_
  refine a_callV C (k := 175) (As := []) (rest := []) (c_M_here l G (ms_d d (s9)) tx L hL (by rw [ms_d_row (by omega) (by omega)]; exact hln) (fun j hj => by rw [ms_d_out (by omega)]; exact htx j hj) ht7 (s9).1 (by rw [ms_d_13]) (by have := hpL; omega)) (cwV 0 C.1.2.2.2.2 gX12_parsesB_X12_here rfl rfl rfl (by decide +kernel) ⟨Nat.le_of_ble_eq_true rfl, Nat.le_of_ble_eq_true rfl⟩) x_k175 (q := (RX12, TX12, 16)) rfl rfl rfl rfl (Nat.le_of_ble_eq_true rfl) dX12_parsesB_1 ⟨Nat.le_of_ble_eq_true rfl, Nat.le_of_ble_eq_true rfl⟩ ?_
  refine a_bipush C dX12_parsesB_4 (v := 117) (by decide) ?_
  refine a_icmp_ne C dX12_parsesB_6 (tgt := 58) (by decide) (fun h6 => ?_) (fun h => False.elim (hn ((tp_h_c (a := 117) ht7 (by omega)).mp h)))
  refine a_aload_n C dX12_parsesB_58 0 rfl ?_
  refine a_getR C (k := 175) iX12 x_k175 rfl (j := 15) rfl (by decide) (by decide +kernel) dX12_parsesB_59 ?_
  refine a_iload_n C dX12_parsesB_62 1 rfl ?_
  refine a_bipush C dX12_parsesB_63 (v := 98) (by decide) ?_
  refine a_iastN C (k := 182) x_k182 (i := k9) rfl (by omega) (by first | decide | omega) dX12_parsesB_65 ?_
  refine a_aload_n C dX12_parsesB_66 0 rfl ?_
  refine a_bipush C dX12_parsesB_67 (v := 114) (by decide) ?_
  refine a_bipush C dX12_parsesB_69 (v := 105) (by decide) ?_
  refine a_bipush C dX12_parsesB_71 (v := 103) (by decide) ?_
  refine a_callV C (k := 175) (As := [.int 114, .int 105, .int 103]) (rest := []) (c_M_needsThree l G (x_p (ms_d d (s9)) 182 k9 98) tx L hL (by rw [x_p_ne (by omega), ms_d_row (by omega) (by omega)]; exact hln) (fun j hj => by rw [x_p_ne (by omega), ms_d_out (by omega)]; exact htx j hj) ht7 (s9) (by rw [x_p_ne (by omega), ms_d_13]) (by rw [x_p_ne (by omega), ms_d_14]) hpL 114 105 103 (by omega) (by omega) (by omega)) (cwV 3 C.1.2.2.2.2 gX12_parsesB_X12_needsThree rfl rfl rfl (by decide +kernel) ⟨Nat.le_of_ble_eq_true rfl, Nat.le_of_ble_eq_true rfl⟩) x_k175 (q := (RX12, TX12, 16)) rfl rfl rfl rfl (Nat.le_of_ble_eq_true rfl) dX12_parsesB_73 ⟨Nat.le_of_ble_eq_true rfl, Nat.le_of_ble_eq_true rfl⟩ ?_
  refine a_toD (d2 := x_p (ms_d d (ms_nd tx L (ms_nd tx L (ms_nd tx L (s9) 114) 105) 103)) 182 k9 98) (by rw [ms_d_w (by omega), ms_d_ms]) ?_
  refine a_aload_n C dX12_parsesB_76 0 rfl ?_
  refine a_bipush C dX12_parsesB_77 (v := 104) (by decide) ?_
  refine a_callV C (k := 175) (As := [.int 104]) (rest := []) (c_M_needs l G (x_p (ms_d d (ms_nd tx L (ms_nd tx L (ms_nd tx L (s9) 114) 105) 103)) 182 k9 98) tx L hL (by rw [x_p_ne (by omega), ms_d_row (by omega) (by omega)]; exact hln) (fun j hj => by rw [x_p_ne (by omega), ms_d_out (by omega)]; exact htx j hj) ht7 (ms_nd tx L (ms_nd tx L (ms_nd tx L (s9) 114) 105) 103) (by rw [x_p_ne (by omega), ms_d_13]) (by rw [x_p_ne (by omega), ms_d_14]) (ms_nd_le (ms_nd_le (ms_nd_le hpL))) 104 (by omega)) (cwV 1 C.1.2.2.2.2 gX12_parsesB_X12_needs rfl rfl rfl (by decide +kernel) ⟨Nat.le_of_ble_eq_true rfl, Nat.le_of_ble_eq_true rfl⟩) x_k175 (q := (RX12, TX12, 16)) rfl rfl rfl rfl (Nat.le_of_ble_eq_true rfl) dX12_parsesB_79 ⟨Nat.le_of_ble_eq_true rfl, Nat.le_of_ble_eq_true rfl⟩ ?_
  refine a_toD (d2 := x_p (ms_d d (ms_nd tx L (ms_nd tx L (ms_nd tx L (ms_nd tx L (s9) 114) 105) 103) 104)) 182 k9 98) (by rw [ms_d_w (by omega), ms_d_ms]) ?_
  refine a_aload_n C dX12_parsesB_82 0 rfl ?_
  refine a_bipush C dX12_parsesB_83 (v := 116) (by decide) ?_
  refine a_callV C (k := 175) (As := [.int 116]) (rest := []) (c_M_needs l G (x_p (ms_d d (ms_nd tx L (ms_nd tx L (ms_nd tx L (ms_nd tx L (s9) 114) 105) 103) 104)) 182 k9 98) tx L hL (by rw [x_p_ne (by omega), ms_d_row (by omega) (by omega)]; exact hln) (fun j hj => by rw [x_p_ne (by omega), ms_d_out (by omega)]; exact htx j hj) ht7 (ms_nd tx L (ms_nd tx L (ms_nd tx L (ms_nd tx L (s9) 114) 105) 103) 104) (by rw [x_p_ne (by omega), ms_d_13]) (by rw [x_p_ne (by omega), ms_d_14]) (ms_nd_le (ms_nd_le (ms_nd_le (ms_nd_le hpL)))) 116 (by omega)) (cwV 1 C.1.2.2.2.2 gX12_parsesB_X12_needs rfl rfl rfl (by decide +kernel) ⟨Nat.le_of_ble_eq_true rfl, Nat.le_of_ble_eq_true rfl⟩) x_k175 (q := (RX12, TX12, 16)) rfl rfl rfl rfl (Nat.le_of_ble_eq_true rfl) dX12_parsesB_85 ⟨Nat.le_of_ble_eq_true rfl, Nat.le_of_ble_eq_true rfl⟩ ?_
  refine a_toD (d2 := x_p (ms_d d (ms_nd tx L (ms_nd tx L (ms_nd tx L (ms_nd tx L (ms_nd tx L (s9) 114) 105) 103) 104) 116)) 182 k9 98) (by rw [ms_d_w (by omega), ms_d_ms]) ?_
  refine a_aload_n C dX12_parsesB_88 0 rfl ?_
  refine a_getR C (k := 175) iX12 x_k175 rfl (j := 15) rfl (by decide) (by decide +kernel) dX12_parsesB_89 ?_
  refine a_iload_n C dX12_parsesB_92 1 rfl ?_
  refine a_iconst C dX12_parsesB_93 (v := 1) (by decide) ?_
  refine a_iadd C dX12_parsesB_94 ?_
  refine a_aload_n C dX12_parsesB_95 0 rfl ?_
  refine a_iconst C dX12_parsesB_96 (v := 1) (by decide) ?_
  refine a_callV C (k := 175) (As := [.int 1]) (rest := [.int ((nI k9) + 1), .ref (x_b G + 182)]) (c_M_figures l G (x_p (ms_d d (ms_nd tx L (ms_nd tx L (ms_nd tx L (ms_nd tx L (ms_nd tx L (s9) 114) 105) 103) 104) 116)) 182 k9 98) tx L hL (by rw [x_p_ne (by omega), ms_d_row (by omega) (by omega)]; exact hln) (fun j hj => by rw [x_p_ne (by omega), ms_d_out (by omega)]; exact htx j hj) ht7 (ms_nd tx L (ms_nd tx L (ms_nd tx L (ms_nd tx L (ms_nd tx L (s9) 114) 105) 103) 104) 116) (by rw [x_p_ne (by omega), ms_d_13]) (by rw [x_p_ne (by omega), ms_d_14]) (ms_nd_le (ms_nd_le (ms_nd_le (ms_nd_le (ms_nd_le hpL))))) 1 (by omega)) (cwV 1 C.1.2.2.2.2 gX12_parsesB_X12_figures rfl rfl rfl (by decide +kernel) ⟨Nat.le_of_ble_eq_true rfl, Nat.le_of_ble_eq_true rfl⟩) x_k175 (q := (RX12, TX12, 16)) rfl rfl rfl rfl (Nat.le_of_ble_eq_true rfl) dX12_parsesB_97 ⟨Nat.le_of_ble_eq_true rfl, Nat.le_of_ble_eq_true rfl⟩ ?_
  refine a_toD (d2 := x_p (ms_d d (ms_fs tx L (ms_nd tx L (ms_nd tx L (ms_nd tx L (ms_nd tx L (ms_nd tx L (s9) 114) 105) 103) 104) 116) 1)) 182 k9 98) (by rw [ms_d_w (by omega), ms_d_ms]) ?_
  refine a_iastN C (k := 182) x_k182 (i := k9 + 1) (x_add2 (a := k9) (b := 1) rfl rfl) (by omega) (by first | decide | omega) dX12_parsesB_100 ?_
  refine a_aload_n C dX12_parsesB_101 0 rfl ?_
  refine a_getR C (k := 175) iX12 x_k175 rfl (j := 15) rfl (by decide) (by decide +kernel) dX12_parsesB_102 ?_
  refine a_iload_n C dX12_parsesB_105 1 rfl ?_
  refine a_iconst C dX12_parsesB_106 (v := 2) (by decide) ?_
  refine a_iadd C dX12_parsesB_107 ?_
  refine a_aload_n C dX12_parsesB_108 0 rfl ?_
  refine a_iconst C dX12_parsesB_109 (v := 1) (by decide) ?_
  refine a_callV C (k := 175) (As := [.int 1]) (rest := [.int ((nI k9) + 2), .ref (x_b G + 182)]) (c_M_figures l G (x_p (x_p (ms_d d (ms_fs tx L (ms_nd tx L (ms_nd tx L (ms_nd tx L (ms_nd tx L (ms_nd tx L (s9) 114) 105) 103) 104) 116) 1)) 182 k9 98) 182 (k9 + 1) (nI (ms_fv tx L (ms_nd tx L (ms_nd tx L (ms_nd tx L (ms_nd tx L (ms_nd tx L (s9) 114) 105) 103) 104) 116) 1))) tx L hL (by rw [x_p_ne (by omega), x_p_ne (by omega), ms_d_row (by omega) (by omega)]; exact hln) (fun j hj => by rw [x_p_ne (by omega), x_p_ne (by omega), ms_d_out (by omega)]; exact htx j hj) ht7 (ms_fs tx L (ms_nd tx L (ms_nd tx L (ms_nd tx L (ms_nd tx L (ms_nd tx L (s9) 114) 105) 103) 104) 116) 1) (by rw [x_p_ne (by omega), x_p_ne (by omega), ms_d_13]) (by rw [x_p_ne (by omega), x_p_ne (by omega), ms_d_14]) (ms_fs_le (ms_nd_le (ms_nd_le (ms_nd_le (ms_nd_le (ms_nd_le hpL)))))) 1 (by omega)) (cwV 1 C.1.2.2.2.2 gX12_parsesB_X12_figures rfl rfl rfl (by decide +kernel) ⟨Nat.le_of_ble_eq_true rfl, Nat.le_of_ble_eq_true rfl⟩) x_k175 (q := (RX12, TX12, 16)) rfl rfl rfl rfl (Nat.le_of_ble_eq_true rfl) dX12_parsesB_110 ⟨Nat.le_of_ble_eq_true rfl, Nat.le_of_ble_eq_true rfl⟩ ?_
  refine a_toD (d2 := x_p (x_p (ms_d d (ms_fs tx L (ms_fs tx L (ms_nd tx L (ms_nd tx L (ms_nd tx L (ms_nd tx L (ms_nd tx L (s9) 114) 105) 103) 104) 116) 1) 1)) 182 k9 98) 182 (k9 + 1) (nI (ms_fv tx L (ms_nd tx L (ms_nd tx L (ms_nd tx L (ms_nd tx L (ms_nd tx L (s9) 114) 105) 103) 104) 116) 1))) (by rw [ms_d_w (by omega), ms_d_w (by omega), ms_d_ms]) ?_
  refine a_iastN C (k := 182) x_k182 (i := k9 + 2) (x_add2 (a := k9) (b := 2) rfl rfl) (by omega) (by first | decide | omega) dX12_parsesB_113 ?_
  exact a_vret C hlocks hr dX12_parsesB_114 rfl

set_option maxHeartbeats 1000000 in
set_option maxRecDepth 100000 in
theorem c_M_parsesCommand_0 (l : Launch) (G : xG) (d : xd) (tx : Nat → Nat) (L : Nat) (hL : L ≤ 60) (hln : d 175 7 = nI L) (htx : ∀ j, j < L → d 180 j = nI (tx j)) (ht7 : ∀ j, j < L → tx j < 128) (pp : Nat) (hpL : pp ≤ L) (k9 : Nat) (hk9 : k9 < 177) (h0 : tp_c tx L pp 108 = true) : x_M G l yX12_parsesCommand wsX12_parsesCommand 5 0 0 [.ref (x_b G + 175), .int (nI k9)] (ms_d d (pp, false)) none (x_p (x_p (x_p (ms_d d (ms_fs tx L (ms_fs tx L (ms_nd tx L (ms_nd tx L (ms_nd tx L (pp + 1, false) 97) 109) 112) 1) 1)) 182 k9 (nI 108)) 182 (k9 + 1) (nI (ms_fv tx L (ms_nd tx L (ms_nd tx L (ms_nd tx L (pp + 1, false) 97) 109) 112) 1))) 182 (k9 + 2) (nI (ms_fv tx L (ms_fs tx L (ms_nd tx L (ms_nd tx L (ms_nd tx L (pp + 1, false) 97) 109) 112) 1) 1))) := by
  have iX12 : ∀ w ∈ u_ws RX12 TX12 16, w ∈ wsX12_parsesCommand := by decide +kernel
  refine x_start (cc := cX12_parsesCommand) (maxL := 3) (ret := none) (own := RX12) (by decide) rfl rfl (Nat.le_of_ble_eq_true rfl) (lst := [(0, .ref (x_b G + 175)), (1, .int (nI k9))]) rfl ?_
  intro p e s m args below meth c C hr hlocks
  have hp1 := tp_c_lt h0
  refine a_aload_n C dX12_parsesCommand_0 0 rfl ?_
  refine a_callV C (k := 175) (As := []) (rest := []) (c_M_here l G (ms_d d (pp, false)) tx L hL (by rw [ms_d_row (by omega) (by omega)]; exact hln) (fun j hj => by rw [ms_d_out (by omega)]; exact htx j hj) ht7 (pp, false).1 (by rw [ms_d_13]) (by have := hpL; omega)) (cwV 0 C.1.2.2.2.2 gX12_parsesCommand_X12_here rfl rfl rfl (by decide +kernel) ⟨Nat.le_of_ble_eq_true rfl, Nat.le_of_ble_eq_true rfl⟩) x_k175 (q := (RX12, TX12, 16)) rfl rfl rfl rfl (Nat.le_of_ble_eq_true rfl) dX12_parsesCommand_1 ⟨Nat.le_of_ble_eq_true rfl, Nat.le_of_ble_eq_true rfl⟩ ?_
  refine a_top (y := (nI 108)) ((tp_h_c ht7 (by omega)).mpr h0) ?_
  refine a_istore_n C dX12_parsesCommand_4 (by decide) (lst2 := [(2, .int (nI 108)), (0, .ref (x_b G + 175)), (1, .int (nI k9))]) rfl ?_
  refine a_aload_n C dX12_parsesCommand_5 1 rfl ?_
  refine a_dup C dX12_parsesCommand_6 rfl ?_
  refine a_getI C (k := 175) iX12 x_k175 rfl (j := 13) rfl (by decide) (by decide +kernel) dX12_parsesCommand_7 ?_
  refine a_top (y := (nI pp)) ms_d_13 ?_
  refine a_iconst C dX12_parsesCommand_10 (v := 1) (by decide) ?_
  refine a_iadd C dX12_parsesCommand_11 ?_
  refine a_top (y := (nI (pp + 1))) (nI_1 pp) ?_
  refine a_putI C (k := 175) iX12 tyX12_ok nmX12 x_k175 rfl (j := 13) rfl (by decide) (by decide +kernel) rfl (ty := .int) (by decide +kernel) rfl rfl dX12_parsesCommand_12 ?_
  refine a_toD (d2 := ms_d d (pp + 1, false)) ms_d_p ?_
  refine a_aload_n C dX12_parsesCommand_15 1 rfl ?_
  refine a_getR C (k := 175) iX12 x_k175 rfl (j := 15) rfl (by decide) (by decide +kernel) dX12_parsesCommand_16 ?_
  refine a_iload_n C dX12_parsesCommand_19 2 rfl ?_
  refine a_iload_n C dX12_parsesCommand_20 0 rfl ?_
  refine a_iastN C (k := 182) x_k182 (i := k9) rfl (by omega) (by first | decide | omega) dX12_parsesCommand_21 ?_
  refine a_iload_n C dX12_parsesCommand_22 0 rfl ?_
  refine a_tableIn C dX12_parsesCommand_23 (by decide +kernel) (by decide +kernel) (off := 101) (by decide +kernel) (tgt := 124) (by decide) ?_
  refine a_aload_n C dX12_parsesCommand_124 1 rfl ?_
  refine a_bipush C dX12_parsesCommand_125 (v := 97) (by decide) ?_
  refine a_bipush C dX12_parsesCommand_127 (v := 109) (by decide) ?_
  refine a_bipush C dX12_parsesCommand_129 (v := 112) (by decide) ?_
  refine a_callV C (k := 175) (As := [.int 97, .int 109, .int 112]) (rest := []) (c_M_needsThree l G (x_p (ms_d d (pp + 1, false)) 182 k9 (nI 108)) tx L hL (by rw [x_p_ne (by omega), ms_d_row (by omega) (by omega)]; exact hln) (fun j hj => by rw [x_p_ne (by omega), ms_d_out (by omega)]; exact htx j hj) ht7 (pp + 1, false) (by rw [x_p_ne (by omega), ms_d_13]) (by rw [x_p_ne (by omega), ms_d_14]) hp1 97 109 112 (by omega) (by omega) (by omega)) (cwV 3 C.1.2.2.2.2 gX12_parsesCommand_X12_needsThree rfl rfl rfl (by decide +kernel) ⟨Nat.le_of_ble_eq_true rfl, Nat.le_of_ble_eq_true rfl⟩) x_k175 (q := (RX12, TX12, 16)) rfl rfl rfl rfl (Nat.le_of_ble_eq_true rfl) dX12_parsesCommand_131 ⟨Nat.le_of_ble_eq_true rfl, Nat.le_of_ble_eq_true rfl⟩ ?_
  refine a_toD (d2 := x_p (ms_d d (ms_nd tx L (ms_nd tx L (ms_nd tx L (pp + 1, false) 97) 109) 112)) 182 k9 (nI 108)) (by rw [ms_d_w (by omega), ms_d_ms]) ?_
  refine a_aload_n C dX12_parsesCommand_134 1 rfl ?_
  refine a_getR C (k := 175) iX12 x_k175 rfl (j := 15) rfl (by decide) (by decide +kernel) dX12_parsesCommand_135 ?_
  refine a_iload_n C dX12_parsesCommand_138 2 rfl ?_
  refine a_iconst C dX12_parsesCommand_139 (v := 1) (by decide) ?_
  refine a_iadd C dX12_parsesCommand_140 ?_
  refine a_aload_n C dX12_parsesCommand_141 1 rfl ?_
  refine a_iconst C dX12_parsesCommand_142 (v := 1) (by decide) ?_
  refine a_callV C (k := 175) (As := [.int 1]) (rest := [.int ((nI k9) + 1), .ref (x_b G + 182)]) (c_M_figures l G (x_p (ms_d d (ms_nd tx L (ms_nd tx L (ms_nd tx L (pp + 1, false) 97) 109) 112)) 182 k9 (nI 108)) tx L hL (by rw [x_p_ne (by omega), ms_d_row (by omega) (by omega)]; exact hln) (fun j hj => by rw [x_p_ne (by omega), ms_d_out (by omega)]; exact htx j hj) ht7 (ms_nd tx L (ms_nd tx L (ms_nd tx L (pp + 1, false) 97) 109) 112) (by rw [x_p_ne (by omega), ms_d_13]) (by rw [x_p_ne (by omega), ms_d_14]) (ms_nd_le (ms_nd_le (ms_nd_le hp1))) 1 (by omega)) (cwV 1 C.1.2.2.2.2 gX12_parsesCommand_X12_figures rfl rfl rfl (by decide +kernel) ⟨Nat.le_of_ble_eq_true rfl, Nat.le_of_ble_eq_true rfl⟩) x_k175 (q := (RX12, TX12, 16)) rfl rfl rfl rfl (Nat.le_of_ble_eq_true rfl) dX12_parsesCommand_143 ⟨Nat.le_of_ble_eq_true rfl, Nat.le_of_ble_eq_true rfl⟩ ?_
  refine a_toD (d2 := x_p (ms_d d (ms_fs tx L (ms_nd tx L (ms_nd tx L (ms_nd tx L (pp + 1, false) 97) 109) 112) 1)) 182 k9 (nI 108)) (by rw [ms_d_w (by omega), ms_d_ms]) ?_
  refine a_iastN C (k := 182) x_k182 (i := k9 + 1) (x_add2 (a := k9) (b := 1) rfl rfl) (by omega) (by first | decide | omega) dX12_parsesCommand_146 ?_
  refine a_aload_n C dX12_parsesCommand_147 1 rfl ?_
  refine a_getR C (k := 175) iX12 x_k175 rfl (j := 15) rfl (by decide) (by decide +kernel) dX12_parsesCommand_148 ?_
  refine a_iload_n C dX12_parsesCommand_151 2 rfl ?_
  refine a_iconst C dX12_parsesCommand_152 (v := 2) (by decide) ?_
  refine a_iadd C dX12_parsesCommand_153 ?_
  refine a_aload_n C dX12_parsesCommand_154 1 rfl ?_
  refine a_iconst C dX12_parsesCommand_155 (v := 1) (by decide) ?_
  refine a_callV C (k := 175) (As := [.int 1]) (rest := [.int ((nI k9) + 2), .ref (x_b G + 182)]) (c_M_figures l G (x_p (x_p (ms_d d (ms_fs tx L (ms_nd tx L (ms_nd tx L (ms_nd tx L (pp + 1, false) 97) 109) 112) 1)) 182 k9 (nI 108)) 182 (k9 + 1) (nI (ms_fv tx L (ms_nd tx L (ms_nd tx L (ms_nd tx L (pp + 1, false) 97) 109) 112) 1))) tx L hL (by rw [x_p_ne (by omega), x_p_ne (by omega), ms_d_row (by omega) (by omega)]; exact hln) (fun j hj => by rw [x_p_ne (by omega), x_p_ne (by omega), ms_d_out (by omega)]; exact htx j hj) ht7 (ms_fs tx L (ms_nd tx L (ms_nd tx L (ms_nd tx L (pp + 1, false) 97) 109) 112) 1) (by rw [x_p_ne (by omega), x_p_ne (by omega), ms_d_13]) (by rw [x_p_ne (by omega), x_p_ne (by omega), ms_d_14]) (ms_fs_le (ms_nd_le (ms_nd_le (ms_nd_le hp1)))) 1 (by omega)) (cwV 1 C.1.2.2.2.2 gX12_parsesCommand_X12_figures rfl rfl rfl (by decide +kernel) ⟨Nat.le_of_ble_eq_true rfl, Nat.le_of_ble_eq_true rfl⟩) x_k175 (q := (RX12, TX12, 16)) rfl rfl rfl rfl (Nat.le_of_ble_eq_true rfl) dX12_parsesCommand_156 ⟨Nat.le_of_ble_eq_true rfl, Nat.le_of_ble_eq_true rfl⟩ ?_
  refine a_toD (d2 := x_p (x_p (ms_d d (ms_fs tx L (ms_fs tx L (ms_nd tx L (ms_nd tx L (ms_nd tx L (pp + 1, false) 97) 109) 112) 1) 1)) 182 k9 (nI 108)) 182 (k9 + 1) (nI (ms_fv tx L (ms_nd tx L (ms_nd tx L (ms_nd tx L (pp + 1, false) 97) 109) 112) 1))) (by rw [ms_d_w (by omega), ms_d_w (by omega), ms_d_ms]) ?_
  refine a_iastN C (k := 182) x_k182 (i := k9 + 2) (x_add2 (a := k9) (b := 2) rfl rfl) (by omega) (by first | decide | omega) dX12_parsesCommand_159 ?_
  refine a_goto C dX12_parsesCommand_160 (tgt := 385) (by decide) ?_
  exact a_vret C hlocks hr dX12_parsesCommand_385 rfl

set_option maxHeartbeats 1000000 in
set_option maxRecDepth 100000 in
theorem c_M_parsesCommand_1 (l : Launch) (G : xG) (d : xd) (tx : Nat → Nat) (L : Nat) (hL : L ≤ 60) (hln : d 175 7 = nI L) (htx : ∀ j, j < L → d 180 j = nI (tx j)) (ht7 : ∀ j, j < L → tx j < 128) (pp : Nat) (hpL : pp ≤ L) (k9 : Nat) (hk9 : k9 < 177) (h0 : tp_c tx L pp 114 = true) : x_M G l yX12_parsesCommand wsX12_parsesCommand 5 0 0 [.ref (x_b G + 175), .int (nI k9)] (ms_d d (pp, false)) none (x_p (x_p (ms_d d (ms_fs tx L (ms_nd tx L (ms_nd tx L (ms_nd tx L (ms_nd tx L (ms_nd tx L (pp + 1, false) 101) 109) 111) 118) 101) 1)) 182 k9 (nI 114)) 182 (k9 + 1) (nI (ms_fv tx L (ms_nd tx L (ms_nd tx L (ms_nd tx L (ms_nd tx L (ms_nd tx L (pp + 1, false) 101) 109) 111) 118) 101) 1))) := by
  have iX12 : ∀ w ∈ u_ws RX12 TX12 16, w ∈ wsX12_parsesCommand := by decide +kernel
  refine x_start (cc := cX12_parsesCommand) (maxL := 3) (ret := none) (own := RX12) (by decide) rfl rfl (Nat.le_of_ble_eq_true rfl) (lst := [(0, .ref (x_b G + 175)), (1, .int (nI k9))]) rfl ?_
  intro p e s m args below meth c C hr hlocks
  have hp1 := tp_c_lt h0
  refine a_aload_n C dX12_parsesCommand_0 0 rfl ?_
  refine a_callV C (k := 175) (As := []) (rest := []) (c_M_here l G (ms_d d (pp, false)) tx L hL (by rw [ms_d_row (by omega) (by omega)]; exact hln) (fun j hj => by rw [ms_d_out (by omega)]; exact htx j hj) ht7 (pp, false).1 (by rw [ms_d_13]) (by have := hpL; omega)) (cwV 0 C.1.2.2.2.2 gX12_parsesCommand_X12_here rfl rfl rfl (by decide +kernel) ⟨Nat.le_of_ble_eq_true rfl, Nat.le_of_ble_eq_true rfl⟩) x_k175 (q := (RX12, TX12, 16)) rfl rfl rfl rfl (Nat.le_of_ble_eq_true rfl) dX12_parsesCommand_1 ⟨Nat.le_of_ble_eq_true rfl, Nat.le_of_ble_eq_true rfl⟩ ?_
  refine a_top (y := (nI 114)) ((tp_h_c ht7 (by omega)).mpr h0) ?_
  refine a_istore_n C dX12_parsesCommand_4 (by decide) (lst2 := [(2, .int (nI 114)), (0, .ref (x_b G + 175)), (1, .int (nI k9))]) rfl ?_
  refine a_aload_n C dX12_parsesCommand_5 1 rfl ?_
  refine a_dup C dX12_parsesCommand_6 rfl ?_
  refine a_getI C (k := 175) iX12 x_k175 rfl (j := 13) rfl (by decide) (by decide +kernel) dX12_parsesCommand_7 ?_
  refine a_top (y := (nI pp)) ms_d_13 ?_
  refine a_iconst C dX12_parsesCommand_10 (v := 1) (by decide) ?_
  refine a_iadd C dX12_parsesCommand_11 ?_
  refine a_top (y := (nI (pp + 1))) (nI_1 pp) ?_
  refine a_putI C (k := 175) iX12 tyX12_ok nmX12 x_k175 rfl (j := 13) rfl (by decide) (by decide +kernel) rfl (ty := .int) (by decide +kernel) rfl rfl dX12_parsesCommand_12 ?_
  refine a_toD (d2 := ms_d d (pp + 1, false)) ms_d_p ?_
  refine a_aload_n C dX12_parsesCommand_15 1 rfl ?_
  refine a_getR C (k := 175) iX12 x_k175 rfl (j := 15) rfl (by decide) (by decide +kernel) dX12_parsesCommand_16 ?_
  refine a_iload_n C dX12_parsesCommand_19 2 rfl ?_
  refine a_iload_n C dX12_parsesCommand_20 0 rfl ?_
  refine a_iastN C (k := 182) x_k182 (i := k9) rfl (by omega) (by first | decide | omega) dX12_parsesCommand_21 ?_
  refine a_iload_n C dX12_parsesCommand_22 0 rfl ?_
  refine a_tableIn C dX12_parsesCommand_23 (by decide +kernel) (by decide +kernel) (off := 140) (by decide +kernel) (tgt := 163) (by decide) ?_
  refine a_aload_n C dX12_parsesCommand_163 1 rfl ?_
  refine a_bipush C dX12_parsesCommand_164 (v := 101) (by decide) ?_
  refine a_bipush C dX12_parsesCommand_166 (v := 109) (by decide) ?_
  refine a_bipush C dX12_parsesCommand_168 (v := 111) (by decide) ?_
  refine a_callV C (k := 175) (As := [.int 101, .int 109, .int 111]) (rest := []) (c_M_needsThree l G (x_p (ms_d d (pp + 1, false)) 182 k9 (nI 114)) tx L hL (by rw [x_p_ne (by omega), ms_d_row (by omega) (by omega)]; exact hln) (fun j hj => by rw [x_p_ne (by omega), ms_d_out (by omega)]; exact htx j hj) ht7 (pp + 1, false) (by rw [x_p_ne (by omega), ms_d_13]) (by rw [x_p_ne (by omega), ms_d_14]) hp1 101 109 111 (by omega) (by omega) (by omega)) (cwV 3 C.1.2.2.2.2 gX12_parsesCommand_X12_needsThree rfl rfl rfl (by decide +kernel) ⟨Nat.le_of_ble_eq_true rfl, Nat.le_of_ble_eq_true rfl⟩) x_k175 (q := (RX12, TX12, 16)) rfl rfl rfl rfl (Nat.le_of_ble_eq_true rfl) dX12_parsesCommand_170 ⟨Nat.le_of_ble_eq_true rfl, Nat.le_of_ble_eq_true rfl⟩ ?_
  refine a_toD (d2 := x_p (ms_d d (ms_nd tx L (ms_nd tx L (ms_nd tx L (pp + 1, false) 101) 109) 111)) 182 k9 (nI 114)) (by rw [ms_d_w (by omega), ms_d_ms]) ?_
  refine a_aload_n C dX12_parsesCommand_173 1 rfl ?_
  refine a_bipush C dX12_parsesCommand_174 (v := 118) (by decide) ?_
  refine a_callV C (k := 175) (As := [.int 118]) (rest := []) (c_M_needs l G (x_p (ms_d d (ms_nd tx L (ms_nd tx L (ms_nd tx L (pp + 1, false) 101) 109) 111)) 182 k9 (nI 114)) tx L hL (by rw [x_p_ne (by omega), ms_d_row (by omega) (by omega)]; exact hln) (fun j hj => by rw [x_p_ne (by omega), ms_d_out (by omega)]; exact htx j hj) ht7 (ms_nd tx L (ms_nd tx L (ms_nd tx L (pp + 1, false) 101) 109) 111) (by rw [x_p_ne (by omega), ms_d_13]) (by rw [x_p_ne (by omega), ms_d_14]) (ms_nd_le (ms_nd_le (ms_nd_le hp1))) 118 (by omega)) (cwV 1 C.1.2.2.2.2 gX12_parsesCommand_X12_needs rfl rfl rfl (by decide +kernel) ⟨Nat.le_of_ble_eq_true rfl, Nat.le_of_ble_eq_true rfl⟩) x_k175 (q := (RX12, TX12, 16)) rfl rfl rfl rfl (Nat.le_of_ble_eq_true rfl) dX12_parsesCommand_176 ⟨Nat.le_of_ble_eq_true rfl, Nat.le_of_ble_eq_true rfl⟩ ?_
  refine a_toD (d2 := x_p (ms_d d (ms_nd tx L (ms_nd tx L (ms_nd tx L (ms_nd tx L (pp + 1, false) 101) 109) 111) 118)) 182 k9 (nI 114)) (by rw [ms_d_w (by omega), ms_d_ms]) ?_
  refine a_aload_n C dX12_parsesCommand_179 1 rfl ?_
  refine a_bipush C dX12_parsesCommand_180 (v := 101) (by decide) ?_
  refine a_callV C (k := 175) (As := [.int 101]) (rest := []) (c_M_needs l G (x_p (ms_d d (ms_nd tx L (ms_nd tx L (ms_nd tx L (ms_nd tx L (pp + 1, false) 101) 109) 111) 118)) 182 k9 (nI 114)) tx L hL (by rw [x_p_ne (by omega), ms_d_row (by omega) (by omega)]; exact hln) (fun j hj => by rw [x_p_ne (by omega), ms_d_out (by omega)]; exact htx j hj) ht7 (ms_nd tx L (ms_nd tx L (ms_nd tx L (ms_nd tx L (pp + 1, false) 101) 109) 111) 118) (by rw [x_p_ne (by omega), ms_d_13]) (by rw [x_p_ne (by omega), ms_d_14]) (ms_nd_le (ms_nd_le (ms_nd_le (ms_nd_le hp1)))) 101 (by omega)) (cwV 1 C.1.2.2.2.2 gX12_parsesCommand_X12_needs rfl rfl rfl (by decide +kernel) ⟨Nat.le_of_ble_eq_true rfl, Nat.le_of_ble_eq_true rfl⟩) x_k175 (q := (RX12, TX12, 16)) rfl rfl rfl rfl (Nat.le_of_ble_eq_true rfl) dX12_parsesCommand_182 ⟨Nat.le_of_ble_eq_true rfl, Nat.le_of_ble_eq_true rfl⟩ ?_
  refine a_toD (d2 := x_p (ms_d d (ms_nd tx L (ms_nd tx L (ms_nd tx L (ms_nd tx L (ms_nd tx L (pp + 1, false) 101) 109) 111) 118) 101)) 182 k9 (nI 114)) (by rw [ms_d_w (by omega), ms_d_ms]) ?_
  refine a_aload_n C dX12_parsesCommand_185 1 rfl ?_
  refine a_getR C (k := 175) iX12 x_k175 rfl (j := 15) rfl (by decide) (by decide +kernel) dX12_parsesCommand_186 ?_
  refine a_iload_n C dX12_parsesCommand_189 2 rfl ?_
  refine a_iconst C dX12_parsesCommand_190 (v := 1) (by decide) ?_
  refine a_iadd C dX12_parsesCommand_191 ?_
  refine a_aload_n C dX12_parsesCommand_192 1 rfl ?_
  refine a_iconst C dX12_parsesCommand_193 (v := 1) (by decide) ?_
  refine a_callV C (k := 175) (As := [.int 1]) (rest := [.int ((nI k9) + 1), .ref (x_b G + 182)]) (c_M_figures l G (x_p (ms_d d (ms_nd tx L (ms_nd tx L (ms_nd tx L (ms_nd tx L (ms_nd tx L (pp + 1, false) 101) 109) 111) 118) 101)) 182 k9 (nI 114)) tx L hL (by rw [x_p_ne (by omega), ms_d_row (by omega) (by omega)]; exact hln) (fun j hj => by rw [x_p_ne (by omega), ms_d_out (by omega)]; exact htx j hj) ht7 (ms_nd tx L (ms_nd tx L (ms_nd tx L (ms_nd tx L (ms_nd tx L (pp + 1, false) 101) 109) 111) 118) 101) (by rw [x_p_ne (by omega), ms_d_13]) (by rw [x_p_ne (by omega), ms_d_14]) (ms_nd_le (ms_nd_le (ms_nd_le (ms_nd_le (ms_nd_le hp1))))) 1 (by omega)) (cwV 1 C.1.2.2.2.2 gX12_parsesCommand_X12_figures rfl rfl rfl (by decide +kernel) ⟨Nat.le_of_ble_eq_true rfl, Nat.le_of_ble_eq_true rfl⟩) x_k175 (q := (RX12, TX12, 16)) rfl rfl rfl rfl (Nat.le_of_ble_eq_true rfl) dX12_parsesCommand_194 ⟨Nat.le_of_ble_eq_true rfl, Nat.le_of_ble_eq_true rfl⟩ ?_
  refine a_toD (d2 := x_p (ms_d d (ms_fs tx L (ms_nd tx L (ms_nd tx L (ms_nd tx L (ms_nd tx L (ms_nd tx L (pp + 1, false) 101) 109) 111) 118) 101) 1)) 182 k9 (nI 114)) (by rw [ms_d_w (by omega), ms_d_ms]) ?_
  refine a_iastN C (k := 182) x_k182 (i := k9 + 1) (x_add2 (a := k9) (b := 1) rfl rfl) (by omega) (by first | decide | omega) dX12_parsesCommand_197 ?_
  refine a_goto C dX12_parsesCommand_198 (tgt := 385) (by decide) ?_
  exact a_vret C hlocks hr dX12_parsesCommand_385 rfl

set_option maxHeartbeats 1000000 in
set_option maxRecDepth 100000 in
theorem c_M_parsesCommand_2 (l : Launch) (G : xG) (d : xd) (tx : Nat → Nat) (L : Nat) (hL : L ≤ 60) (hln : d 175 7 = nI L) (htx : ∀ j, j < L → d 180 j = nI (tx j)) (ht7 : ∀ j, j < L → tx j < 128) (pp : Nat) (hpL : pp ≤ L) (k9 : Nat) (hk9 : k9 < 177) (hc : tp_c tx L (pp + 1) 105 = true) (h0 : tp_c tx L pp 111 = true) : x_M G l yX12_parsesCommand wsX12_parsesCommand 5 0 0 [.ref (x_b G + 175), .int (nI k9)] (ms_d d (pp, false)) none (x_p (x_p (x_p (ms_d d (ms_fs tx L (ms_nd tx L (ms_nd tx L ((pp + 1, false)) 105) 108) 3)) 182 k9 (nI 111)) 182 k9 105) 182 (k9 + 1) (nI (ms_fv tx L (ms_nd tx L (ms_nd tx L ((pp + 1, false)) 105) 108) 3))) := by
  have iX12 : ∀ w ∈ u_ws RX12 TX12 16, w ∈ wsX12_parsesCommand := by decide +kernel
  refine x_start (cc := cX12_parsesCommand) (maxL := 3) (ret := none) (own := RX12) (by decide) rfl rfl (Nat.le_of_ble_eq_true rfl) (lst := [(0, .ref (x_b G + 175)), (1, .int (nI k9))]) rfl ?_
  intro p e s m args below meth c C hr hlocks
  have hp1 := tp_c_lt h0
  refine a_aload_n C dX12_parsesCommand_0 0 rfl ?_
  refine a_callV C (k := 175) (As := []) (rest := []) (c_M_here l G (ms_d d (pp, false)) tx L hL (by rw [ms_d_row (by omega) (by omega)]; exact hln) (fun j hj => by rw [ms_d_out (by omega)]; exact htx j hj) ht7 (pp, false).1 (by rw [ms_d_13]) (by have := hpL; omega)) (cwV 0 C.1.2.2.2.2 gX12_parsesCommand_X12_here rfl rfl rfl (by decide +kernel) ⟨Nat.le_of_ble_eq_true rfl, Nat.le_of_ble_eq_true rfl⟩) x_k175 (q := (RX12, TX12, 16)) rfl rfl rfl rfl (Nat.le_of_ble_eq_true rfl) dX12_parsesCommand_1 ⟨Nat.le_of_ble_eq_true rfl, Nat.le_of_ble_eq_true rfl⟩ ?_
  refine a_top (y := (nI 111)) ((tp_h_c ht7 (by omega)).mpr h0) ?_
  refine a_istore_n C dX12_parsesCommand_4 (by decide) (lst2 := [(2, .int (nI 111)), (0, .ref (x_b G + 175)), (1, .int (nI k9))]) rfl ?_
  refine a_aload_n C dX12_parsesCommand_5 1 rfl ?_
  refine a_dup C dX12_parsesCommand_6 rfl ?_
  refine a_getI C (k := 175) iX12 x_k175 rfl (j := 13) rfl (by decide) (by decide +kernel) dX12_parsesCommand_7 ?_
  refine a_top (y := (nI pp)) ms_d_13 ?_
  refine a_iconst C dX12_parsesCommand_10 (v := 1) (by decide) ?_
  refine a_iadd C dX12_parsesCommand_11 ?_
  refine a_top (y := (nI (pp + 1))) (nI_1 pp) ?_
  refine a_putI C (k := 175) iX12 tyX12_ok nmX12 x_k175 rfl (j := 13) rfl (by decide) (by decide +kernel) rfl (ty := .int) (by decide +kernel) rfl rfl dX12_parsesCommand_12 ?_
  refine a_toD (d2 := ms_d d (pp + 1, false)) ms_d_p ?_
  refine a_aload_n C dX12_parsesCommand_15 1 rfl ?_
  refine a_getR C (k := 175) iX12 x_k175 rfl (j := 15) rfl (by decide) (by decide +kernel) dX12_parsesCommand_16 ?_
  refine a_iload_n C dX12_parsesCommand_19 2 rfl ?_
  refine a_iload_n C dX12_parsesCommand_20 0 rfl ?_
  refine a_iastN C (k := 182) x_k182 (i := k9) rfl (by omega) (by first | decide | omega) dX12_parsesCommand_21 ?_
  refine a_iload_n C dX12_parsesCommand_22 0 rfl ?_
  refine a_tableIn C dX12_parsesCommand_23 (by decide +kernel) (by decide +kernel) (off := 178) (by decide +kernel) (tgt := 201) (by decide) ?_
  refine a_aload_n C dX12_parsesCommand_201 1 rfl ?_
  refine a_iload_n C dX12_parsesCommand_202 2 rfl ?_
  refine a_toD (d2 := ms_d (x_p d 182 k9 (nI 111)) (pp + 1, false)) (ms_d_w (by omega)).symm ?_
  refine a_callV C (k := 175) (As := [.int (nI k9)]) (rest := []) (c_M_parsesO_2 l G (x_p d 182 k9 (nI 111)) tx L hL (by rw [x_p_ne (by omega)]; exact hln) (fun j hj => by rw [x_p_ne (by omega)]; exact htx j hj) ht7 (pp + 1, false) hp1 k9 hk9 hc) (cwV 1 C.1.2.2.2.2 gX12_parsesCommand_X12_parsesO rfl rfl rfl (by decide +kernel) ⟨Nat.le_of_ble_eq_true rfl, Nat.le_of_ble_eq_true rfl⟩) x_k175 (q := (RX12, TX12, 16)) rfl rfl rfl rfl (Nat.le_of_ble_eq_true rfl) dX12_parsesCommand_203 ⟨Nat.le_of_ble_eq_true rfl, Nat.le_of_ble_eq_true rfl⟩ ?_
  refine a_toD (d2 := x_p (x_p (x_p (ms_d d (ms_fs tx L (ms_nd tx L (ms_nd tx L ((pp + 1, false)) 105) 108) 3)) 182 k9 (nI 111)) 182 k9 105) 182 (k9 + 1) (nI (ms_fv tx L (ms_nd tx L (ms_nd tx L ((pp + 1, false)) 105) 108) 3))) (by rw [ms_d_w (by omega)]) ?_
  refine a_goto C dX12_parsesCommand_206 (tgt := 385) (by decide) ?_
  exact a_vret C hlocks hr dX12_parsesCommand_385 rfl

set_option maxHeartbeats 1000000 in
set_option maxRecDepth 100000 in
theorem c_M_parsesCommand_3 (l : Launch) (G : xG) (d : xd) (tx : Nat → Nat) (L : Nat) (hL : L ≤ 60) (hln : d 175 7 = nI L) (htx : ∀ j, j < L → d 180 j = nI (tx j)) (ht7 : ∀ j, j < L → tx j < 128) (pp : Nat) (hpL : pp ≤ L) (k9 : Nat) (hk9 : k9 < 177) (h0 : tp_c tx L pp 119 = true) : x_M G l yX12_parsesCommand wsX12_parsesCommand 5 0 0 [.ref (x_b G + 175), .int (nI k9)] (ms_d d (pp, false)) none (x_p (x_p (ms_d d (ms_fs tx L (ms_nd tx L (ms_nd tx L (ms_nd tx L (pp + 1, false) 105) 99) 107) 3)) 182 k9 (nI 119)) 182 (k9 + 1) (nI (ms_fv tx L (ms_nd tx L (ms_nd tx L (ms_nd tx L (pp + 1, false) 105) 99) 107) 3))) := by
  have iX12 : ∀ w ∈ u_ws RX12 TX12 16, w ∈ wsX12_parsesCommand := by decide +kernel
  refine x_start (cc := cX12_parsesCommand) (maxL := 3) (ret := none) (own := RX12) (by decide) rfl rfl (Nat.le_of_ble_eq_true rfl) (lst := [(0, .ref (x_b G + 175)), (1, .int (nI k9))]) rfl ?_
  intro p e s m args below meth c C hr hlocks
  have hp1 := tp_c_lt h0
  refine a_aload_n C dX12_parsesCommand_0 0 rfl ?_
  refine a_callV C (k := 175) (As := []) (rest := []) (c_M_here l G (ms_d d (pp, false)) tx L hL (by rw [ms_d_row (by omega) (by omega)]; exact hln) (fun j hj => by rw [ms_d_out (by omega)]; exact htx j hj) ht7 (pp, false).1 (by rw [ms_d_13]) (by have := hpL; omega)) (cwV 0 C.1.2.2.2.2 gX12_parsesCommand_X12_here rfl rfl rfl (by decide +kernel) ⟨Nat.le_of_ble_eq_true rfl, Nat.le_of_ble_eq_true rfl⟩) x_k175 (q := (RX12, TX12, 16)) rfl rfl rfl rfl (Nat.le_of_ble_eq_true rfl) dX12_parsesCommand_1 ⟨Nat.le_of_ble_eq_true rfl, Nat.le_of_ble_eq_true rfl⟩ ?_
  refine a_top (y := (nI 119)) ((tp_h_c ht7 (by omega)).mpr h0) ?_
  refine a_istore_n C dX12_parsesCommand_4 (by decide) (lst2 := [(2, .int (nI 119)), (0, .ref (x_b G + 175)), (1, .int (nI k9))]) rfl ?_
  refine a_aload_n C dX12_parsesCommand_5 1 rfl ?_
  refine a_dup C dX12_parsesCommand_6 rfl ?_
  refine a_getI C (k := 175) iX12 x_k175 rfl (j := 13) rfl (by decide) (by decide +kernel) dX12_parsesCommand_7 ?_
  refine a_top (y := (nI pp)) ms_d_13 ?_
  refine a_iconst C dX12_parsesCommand_10 (v := 1) (by decide) ?_
  refine a_iadd C dX12_parsesCommand_11 ?_
  refine a_top (y := (nI (pp + 1))) (nI_1 pp) ?_
  refine a_putI C (k := 175) iX12 tyX12_ok nmX12 x_k175 rfl (j := 13) rfl (by decide) (by decide +kernel) rfl (ty := .int) (by decide +kernel) rfl rfl dX12_parsesCommand_12 ?_
  refine a_toD (d2 := ms_d d (pp + 1, false)) ms_d_p ?_
  refine a_aload_n C dX12_parsesCommand_15 1 rfl ?_
  refine a_getR C (k := 175) iX12 x_k175 rfl (j := 15) rfl (by decide) (by decide +kernel) dX12_parsesCommand_16 ?_
  refine a_iload_n C dX12_parsesCommand_19 2 rfl ?_
  refine a_iload_n C dX12_parsesCommand_20 0 rfl ?_
  refine a_iastN C (k := 182) x_k182 (i := k9) rfl (by omega) (by first | decide | omega) dX12_parsesCommand_21 ?_
  refine a_iload_n C dX12_parsesCommand_22 0 rfl ?_
  refine a_tableIn C dX12_parsesCommand_23 (by decide +kernel) (by decide +kernel) (off := 186) (by decide +kernel) (tgt := 209) (by decide) ?_
  refine a_aload_n C dX12_parsesCommand_209 1 rfl ?_
  refine a_bipush C dX12_parsesCommand_210 (v := 105) (by decide) ?_
  refine a_bipush C dX12_parsesCommand_212 (v := 99) (by decide) ?_
  refine a_bipush C dX12_parsesCommand_214 (v := 107) (by decide) ?_
  refine a_callV C (k := 175) (As := [.int 105, .int 99, .int 107]) (rest := []) (c_M_needsThree l G (x_p (ms_d d (pp + 1, false)) 182 k9 (nI 119)) tx L hL (by rw [x_p_ne (by omega), ms_d_row (by omega) (by omega)]; exact hln) (fun j hj => by rw [x_p_ne (by omega), ms_d_out (by omega)]; exact htx j hj) ht7 (pp + 1, false) (by rw [x_p_ne (by omega), ms_d_13]) (by rw [x_p_ne (by omega), ms_d_14]) hp1 105 99 107 (by omega) (by omega) (by omega)) (cwV 3 C.1.2.2.2.2 gX12_parsesCommand_X12_needsThree rfl rfl rfl (by decide +kernel) ⟨Nat.le_of_ble_eq_true rfl, Nat.le_of_ble_eq_true rfl⟩) x_k175 (q := (RX12, TX12, 16)) rfl rfl rfl rfl (Nat.le_of_ble_eq_true rfl) dX12_parsesCommand_216 ⟨Nat.le_of_ble_eq_true rfl, Nat.le_of_ble_eq_true rfl⟩ ?_
  refine a_toD (d2 := x_p (ms_d d (ms_nd tx L (ms_nd tx L (ms_nd tx L (pp + 1, false) 105) 99) 107)) 182 k9 (nI 119)) (by rw [ms_d_w (by omega), ms_d_ms]) ?_
  refine a_aload_n C dX12_parsesCommand_219 1 rfl ?_
  refine a_getR C (k := 175) iX12 x_k175 rfl (j := 15) rfl (by decide) (by decide +kernel) dX12_parsesCommand_220 ?_
  refine a_iload_n C dX12_parsesCommand_223 2 rfl ?_
  refine a_iconst C dX12_parsesCommand_224 (v := 1) (by decide) ?_
  refine a_iadd C dX12_parsesCommand_225 ?_
  refine a_aload_n C dX12_parsesCommand_226 1 rfl ?_
  refine a_iconst C dX12_parsesCommand_227 (v := 3) (by decide) ?_
  refine a_callV C (k := 175) (As := [.int 3]) (rest := [.int ((nI k9) + 1), .ref (x_b G + 182)]) (c_M_figures l G (x_p (ms_d d (ms_nd tx L (ms_nd tx L (ms_nd tx L (pp + 1, false) 105) 99) 107)) 182 k9 (nI 119)) tx L hL (by rw [x_p_ne (by omega), ms_d_row (by omega) (by omega)]; exact hln) (fun j hj => by rw [x_p_ne (by omega), ms_d_out (by omega)]; exact htx j hj) ht7 (ms_nd tx L (ms_nd tx L (ms_nd tx L (pp + 1, false) 105) 99) 107) (by rw [x_p_ne (by omega), ms_d_13]) (by rw [x_p_ne (by omega), ms_d_14]) (ms_nd_le (ms_nd_le (ms_nd_le hp1))) 3 (by omega)) (cwV 1 C.1.2.2.2.2 gX12_parsesCommand_X12_figures rfl rfl rfl (by decide +kernel) ⟨Nat.le_of_ble_eq_true rfl, Nat.le_of_ble_eq_true rfl⟩) x_k175 (q := (RX12, TX12, 16)) rfl rfl rfl rfl (Nat.le_of_ble_eq_true rfl) dX12_parsesCommand_228 ⟨Nat.le_of_ble_eq_true rfl, Nat.le_of_ble_eq_true rfl⟩ ?_
  refine a_toD (d2 := x_p (ms_d d (ms_fs tx L (ms_nd tx L (ms_nd tx L (ms_nd tx L (pp + 1, false) 105) 99) 107) 3)) 182 k9 (nI 119)) (by rw [ms_d_w (by omega), ms_d_ms]) ?_
  refine a_iastN C (k := 182) x_k182 (i := k9 + 1) (x_add2 (a := k9) (b := 1) rfl rfl) (by omega) (by first | decide | omega) dX12_parsesCommand_231 ?_
  refine a_goto C dX12_parsesCommand_232 (tgt := 385) (by decide) ?_
  exact a_vret C hlocks hr dX12_parsesCommand_385 rfl

set_option maxHeartbeats 1000000 in
set_option maxRecDepth 100000 in
theorem c_M_parsesCommand_4 (l : Launch) (G : xG) (d : xd) (tx : Nat → Nat) (L : Nat) (hL : L ≤ 60) (hln : d 175 7 = nI L) (htx : ∀ j, j < L → d 180 j = nI (tx j)) (ht7 : ∀ j, j < L → tx j < 128) (pp : Nat) (hpL : pp ≤ L) (k9 : Nat) (hk9 : k9 < 177) (h0 : tp_c tx L pp 103 = true) : x_M G l yX12_parsesCommand wsX12_parsesCommand 5 0 0 [.ref (x_b G + 175), .int (nI k9)] (ms_d d (pp, false)) none (x_p (x_p (x_p (ms_d d (ms_fs tx L (ms_fs tx L (ms_nd tx L (ms_nd tx L (ms_nd tx L (pp + 1, false) 105) 118) 101) 1) 1)) 182 k9 (nI 103)) 182 (k9 + 1) (nI (ms_fv tx L (ms_nd tx L (ms_nd tx L (ms_nd tx L (pp + 1, false) 105) 118) 101) 1))) 182 (k9 + 2) (nI (ms_fv tx L (ms_fs tx L (ms_nd tx L (ms_nd tx L (ms_nd tx L (pp + 1, false) 105) 118) 101) 1) 1))) := by
  have iX12 : ∀ w ∈ u_ws RX12 TX12 16, w ∈ wsX12_parsesCommand := by decide +kernel
  refine x_start (cc := cX12_parsesCommand) (maxL := 3) (ret := none) (own := RX12) (by decide) rfl rfl (Nat.le_of_ble_eq_true rfl) (lst := [(0, .ref (x_b G + 175)), (1, .int (nI k9))]) rfl ?_
  intro p e s m args below meth c C hr hlocks
  have hp1 := tp_c_lt h0
  refine a_aload_n C dX12_parsesCommand_0 0 rfl ?_
  refine a_callV C (k := 175) (As := []) (rest := []) (c_M_here l G (ms_d d (pp, false)) tx L hL (by rw [ms_d_row (by omega) (by omega)]; exact hln) (fun j hj => by rw [ms_d_out (by omega)]; exact htx j hj) ht7 (pp, false).1 (by rw [ms_d_13]) (by have := hpL; omega)) (cwV 0 C.1.2.2.2.2 gX12_parsesCommand_X12_here rfl rfl rfl (by decide +kernel) ⟨Nat.le_of_ble_eq_true rfl, Nat.le_of_ble_eq_true rfl⟩) x_k175 (q := (RX12, TX12, 16)) rfl rfl rfl rfl (Nat.le_of_ble_eq_true rfl) dX12_parsesCommand_1 ⟨Nat.le_of_ble_eq_true rfl, Nat.le_of_ble_eq_true rfl⟩ ?_
  refine a_top (y := (nI 103)) ((tp_h_c ht7 (by omega)).mpr h0) ?_
  refine a_istore_n C dX12_parsesCommand_4 (by decide) (lst2 := [(2, .int (nI 103)), (0, .ref (x_b G + 175)), (1, .int (nI k9))]) rfl ?_
  refine a_aload_n C dX12_parsesCommand_5 1 rfl ?_
  refine a_dup C dX12_parsesCommand_6 rfl ?_
  refine a_getI C (k := 175) iX12 x_k175 rfl (j := 13) rfl (by decide) (by decide +kernel) dX12_parsesCommand_7 ?_
  refine a_top (y := (nI pp)) ms_d_13 ?_
  refine a_iconst C dX12_parsesCommand_10 (v := 1) (by decide) ?_
  refine a_iadd C dX12_parsesCommand_11 ?_
  refine a_top (y := (nI (pp + 1))) (nI_1 pp) ?_
  refine a_putI C (k := 175) iX12 tyX12_ok nmX12 x_k175 rfl (j := 13) rfl (by decide) (by decide +kernel) rfl (ty := .int) (by decide +kernel) rfl rfl dX12_parsesCommand_12 ?_
  refine a_toD (d2 := ms_d d (pp + 1, false)) ms_d_p ?_
  refine a_aload_n C dX12_parsesCommand_15 1 rfl ?_
  refine a_getR C (k := 175) iX12 x_k175 rfl (j := 15) rfl (by decide) (by decide +kernel) dX12_parsesCommand_16 ?_
  refine a_iload_n C dX12_parsesCommand_19 2 rfl ?_
  refine a_iload_n C dX12_parsesCommand_20 0 rfl ?_
  refine a_iastN C (k := 182) x_k182 (i := k9) rfl (by omega) (by first | decide | omega) dX12_parsesCommand_21 ?_
  refine a_iload_n C dX12_parsesCommand_22 0 rfl ?_
  refine a_tableIn C dX12_parsesCommand_23 (by decide +kernel) (by decide +kernel) (off := 212) (by decide +kernel) (tgt := 235) (by decide) ?_
  refine a_aload_n C dX12_parsesCommand_235 1 rfl ?_
  refine a_bipush C dX12_parsesCommand_236 (v := 105) (by decide) ?_
  refine a_bipush C dX12_parsesCommand_238 (v := 118) (by decide) ?_
  refine a_bipush C dX12_parsesCommand_240 (v := 101) (by decide) ?_
  refine a_callV C (k := 175) (As := [.int 105, .int 118, .int 101]) (rest := []) (c_M_needsThree l G (x_p (ms_d d (pp + 1, false)) 182 k9 (nI 103)) tx L hL (by rw [x_p_ne (by omega), ms_d_row (by omega) (by omega)]; exact hln) (fun j hj => by rw [x_p_ne (by omega), ms_d_out (by omega)]; exact htx j hj) ht7 (pp + 1, false) (by rw [x_p_ne (by omega), ms_d_13]) (by rw [x_p_ne (by omega), ms_d_14]) hp1 105 118 101 (by omega) (by omega) (by omega)) (cwV 3 C.1.2.2.2.2 gX12_parsesCommand_X12_needsThree rfl rfl rfl (by decide +kernel) ⟨Nat.le_of_ble_eq_true rfl, Nat.le_of_ble_eq_true rfl⟩) x_k175 (q := (RX12, TX12, 16)) rfl rfl rfl rfl (Nat.le_of_ble_eq_true rfl) dX12_parsesCommand_242 ⟨Nat.le_of_ble_eq_true rfl, Nat.le_of_ble_eq_true rfl⟩ ?_
  refine a_toD (d2 := x_p (ms_d d (ms_nd tx L (ms_nd tx L (ms_nd tx L (pp + 1, false) 105) 118) 101)) 182 k9 (nI 103)) (by rw [ms_d_w (by omega), ms_d_ms]) ?_
  refine a_aload_n C dX12_parsesCommand_245 1 rfl ?_
  refine a_getR C (k := 175) iX12 x_k175 rfl (j := 15) rfl (by decide) (by decide +kernel) dX12_parsesCommand_246 ?_
  refine a_iload_n C dX12_parsesCommand_249 2 rfl ?_
  refine a_iconst C dX12_parsesCommand_250 (v := 1) (by decide) ?_
  refine a_iadd C dX12_parsesCommand_251 ?_
  refine a_aload_n C dX12_parsesCommand_252 1 rfl ?_
  refine a_iconst C dX12_parsesCommand_253 (v := 1) (by decide) ?_
  refine a_callV C (k := 175) (As := [.int 1]) (rest := [.int ((nI k9) + 1), .ref (x_b G + 182)]) (c_M_figures l G (x_p (ms_d d (ms_nd tx L (ms_nd tx L (ms_nd tx L (pp + 1, false) 105) 118) 101)) 182 k9 (nI 103)) tx L hL (by rw [x_p_ne (by omega), ms_d_row (by omega) (by omega)]; exact hln) (fun j hj => by rw [x_p_ne (by omega), ms_d_out (by omega)]; exact htx j hj) ht7 (ms_nd tx L (ms_nd tx L (ms_nd tx L (pp + 1, false) 105) 118) 101) (by rw [x_p_ne (by omega), ms_d_13]) (by rw [x_p_ne (by omega), ms_d_14]) (ms_nd_le (ms_nd_le (ms_nd_le hp1))) 1 (by omega)) (cwV 1 C.1.2.2.2.2 gX12_parsesCommand_X12_figures rfl rfl rfl (by decide +kernel) ⟨Nat.le_of_ble_eq_true rfl, Nat.le_of_ble_eq_true rfl⟩) x_k175 (q := (RX12, TX12, 16)) rfl rfl rfl rfl (Nat.le_of_ble_eq_true rfl) dX12_parsesCommand_254 ⟨Nat.le_of_ble_eq_true rfl, Nat.le_of_ble_eq_true rfl⟩ ?_
  refine a_toD (d2 := x_p (ms_d d (ms_fs tx L (ms_nd tx L (ms_nd tx L (ms_nd tx L (pp + 1, false) 105) 118) 101) 1)) 182 k9 (nI 103)) (by rw [ms_d_w (by omega), ms_d_ms]) ?_
  refine a_iastN C (k := 182) x_k182 (i := k9 + 1) (x_add2 (a := k9) (b := 1) rfl rfl) (by omega) (by first | decide | omega) dX12_parsesCommand_257 ?_
  refine a_aload_n C dX12_parsesCommand_258 1 rfl ?_
  refine a_getR C (k := 175) iX12 x_k175 rfl (j := 15) rfl (by decide) (by decide +kernel) dX12_parsesCommand_259 ?_
  refine a_iload_n C dX12_parsesCommand_262 2 rfl ?_
  refine a_iconst C dX12_parsesCommand_263 (v := 2) (by decide) ?_
  refine a_iadd C dX12_parsesCommand_264 ?_
  refine a_aload_n C dX12_parsesCommand_265 1 rfl ?_
  refine a_iconst C dX12_parsesCommand_266 (v := 1) (by decide) ?_
  refine a_callV C (k := 175) (As := [.int 1]) (rest := [.int ((nI k9) + 2), .ref (x_b G + 182)]) (c_M_figures l G (x_p (x_p (ms_d d (ms_fs tx L (ms_nd tx L (ms_nd tx L (ms_nd tx L (pp + 1, false) 105) 118) 101) 1)) 182 k9 (nI 103)) 182 (k9 + 1) (nI (ms_fv tx L (ms_nd tx L (ms_nd tx L (ms_nd tx L (pp + 1, false) 105) 118) 101) 1))) tx L hL (by rw [x_p_ne (by omega), x_p_ne (by omega), ms_d_row (by omega) (by omega)]; exact hln) (fun j hj => by rw [x_p_ne (by omega), x_p_ne (by omega), ms_d_out (by omega)]; exact htx j hj) ht7 (ms_fs tx L (ms_nd tx L (ms_nd tx L (ms_nd tx L (pp + 1, false) 105) 118) 101) 1) (by rw [x_p_ne (by omega), x_p_ne (by omega), ms_d_13]) (by rw [x_p_ne (by omega), x_p_ne (by omega), ms_d_14]) (ms_fs_le (ms_nd_le (ms_nd_le (ms_nd_le hp1)))) 1 (by omega)) (cwV 1 C.1.2.2.2.2 gX12_parsesCommand_X12_figures rfl rfl rfl (by decide +kernel) ⟨Nat.le_of_ble_eq_true rfl, Nat.le_of_ble_eq_true rfl⟩) x_k175 (q := (RX12, TX12, 16)) rfl rfl rfl rfl (Nat.le_of_ble_eq_true rfl) dX12_parsesCommand_267 ⟨Nat.le_of_ble_eq_true rfl, Nat.le_of_ble_eq_true rfl⟩ ?_
  refine a_toD (d2 := x_p (x_p (ms_d d (ms_fs tx L (ms_fs tx L (ms_nd tx L (ms_nd tx L (ms_nd tx L (pp + 1, false) 105) 118) 101) 1) 1)) 182 k9 (nI 103)) 182 (k9 + 1) (nI (ms_fv tx L (ms_nd tx L (ms_nd tx L (ms_nd tx L (pp + 1, false) 105) 118) 101) 1))) (by rw [ms_d_w (by omega), ms_d_w (by omega), ms_d_ms]) ?_
  refine a_iastN C (k := 182) x_k182 (i := k9 + 2) (x_add2 (a := k9) (b := 2) rfl rfl) (by omega) (by first | decide | omega) dX12_parsesCommand_270 ?_
  refine a_goto C dX12_parsesCommand_271 (tgt := 385) (by decide) ?_
  exact a_vret C hlocks hr dX12_parsesCommand_385 rfl

set_option maxHeartbeats 1000000 in
set_option maxRecDepth 100000 in
theorem c_M_parsesCommand_5 (l : Launch) (G : xG) (d : xd) (tx : Nat → Nat) (L : Nat) (hL : L ≤ 60) (hln : d 175 7 = nI L) (htx : ∀ j, j < L → d 180 j = nI (tx j)) (ht7 : ∀ j, j < L → tx j < 128) (pp : Nat) (hpL : pp ≤ L) (k9 : Nat) (hk9 : k9 < 177) (hn : ¬ tp_c tx L (pp + 1) 117 = true) (h0 : tp_c tx L pp 98 = true) : x_M G l yX12_parsesCommand wsX12_parsesCommand 5 0 0 [.ref (x_b G + 175), .int (nI k9)] (ms_d d (pp, false)) none (x_p (x_p (x_p (x_p (ms_d d (ms_fs tx L (ms_fs tx L (ms_nd tx L (ms_nd tx L (ms_nd tx L (ms_nd tx L (ms_nd tx L ((pp + 1, false)) 114) 105) 103) 104) 116) 1) 1)) 182 k9 (nI 98)) 182 k9 98) 182 (k9 + 1) (nI (ms_fv tx L (ms_nd tx L (ms_nd tx L (ms_nd tx L (ms_nd tx L (ms_nd tx L ((pp + 1, false)) 114) 105) 103) 104) 116) 1))) 182 (k9 + 2) (nI (ms_fv tx L (ms_fs tx L (ms_nd tx L (ms_nd tx L (ms_nd tx L (ms_nd tx L (ms_nd tx L ((pp + 1, false)) 114) 105) 103) 104) 116) 1) 1))) := by
  have iX12 : ∀ w ∈ u_ws RX12 TX12 16, w ∈ wsX12_parsesCommand := by decide +kernel
  refine x_start (cc := cX12_parsesCommand) (maxL := 3) (ret := none) (own := RX12) (by decide) rfl rfl (Nat.le_of_ble_eq_true rfl) (lst := [(0, .ref (x_b G + 175)), (1, .int (nI k9))]) rfl ?_
  intro p e s m args below meth c C hr hlocks
  have hp1 := tp_c_lt h0
  refine a_aload_n C dX12_parsesCommand_0 0 rfl ?_
  refine a_callV C (k := 175) (As := []) (rest := []) (c_M_here l G (ms_d d (pp, false)) tx L hL (by rw [ms_d_row (by omega) (by omega)]; exact hln) (fun j hj => by rw [ms_d_out (by omega)]; exact htx j hj) ht7 (pp, false).1 (by rw [ms_d_13]) (by have := hpL; omega)) (cwV 0 C.1.2.2.2.2 gX12_parsesCommand_X12_here rfl rfl rfl (by decide +kernel) ⟨Nat.le_of_ble_eq_true rfl, Nat.le_of_ble_eq_true rfl⟩) x_k175 (q := (RX12, TX12, 16)) rfl rfl rfl rfl (Nat.le_of_ble_eq_true rfl) dX12_parsesCommand_1 ⟨Nat.le_of_ble_eq_true rfl, Nat.le_of_ble_eq_true rfl⟩ ?_
  refine a_top (y := (nI 98)) ((tp_h_c ht7 (by omega)).mpr h0) ?_
  refine a_istore_n C dX12_parsesCommand_4 (by decide) (lst2 := [(2, .int (nI 98)), (0, .ref (x_b G + 175)), (1, .int (nI k9))]) rfl ?_
  refine a_aload_n C dX12_parsesCommand_5 1 rfl ?_
  refine a_dup C dX12_parsesCommand_6 rfl ?_
  refine a_getI C (k := 175) iX12 x_k175 rfl (j := 13) rfl (by decide) (by decide +kernel) dX12_parsesCommand_7 ?_
  refine a_top (y := (nI pp)) ms_d_13 ?_
  refine a_iconst C dX12_parsesCommand_10 (v := 1) (by decide) ?_
  refine a_iadd C dX12_parsesCommand_11 ?_
  refine a_top (y := (nI (pp + 1))) (nI_1 pp) ?_
  refine a_putI C (k := 175) iX12 tyX12_ok nmX12 x_k175 rfl (j := 13) rfl (by decide) (by decide +kernel) rfl (ty := .int) (by decide +kernel) rfl rfl dX12_parsesCommand_12 ?_
  refine a_toD (d2 := ms_d d (pp + 1, false)) ms_d_p ?_
  refine a_aload_n C dX12_parsesCommand_15 1 rfl ?_
  refine a_getR C (k := 175) iX12 x_k175 rfl (j := 15) rfl (by decide) (by decide +kernel) dX12_parsesCommand_16 ?_
  refine a_iload_n C dX12_parsesCommand_19 2 rfl ?_
  refine a_iload_n C dX12_parsesCommand_20 0 rfl ?_
  refine a_iastN C (k := 182) x_k182 (i := k9) rfl (by omega) (by first | decide | omega) dX12_parsesCommand_21 ?_
  refine a_iload_n C dX12_parsesCommand_22 0 rfl ?_
  refine a_tableIn C dX12_parsesCommand_23 (by decide +kernel) (by decide +kernel) (off := 251) (by decide +kernel) (tgt := 274) (by decide) ?_
  refine a_aload_n C dX12_parsesCommand_274 1 rfl ?_
  refine a_iload_n C dX12_parsesCommand_275 2 rfl ?_
  refine a_toD (d2 := ms_d (x_p d 182 k9 (nI 98)) (pp + 1, false)) (ms_d_w (by omega)).symm ?_
  refine a_callV C (k := 175) (As := [.int (nI k9)]) (rest := []) (c_M_parsesB_5 l G (x_p d 182 k9 (nI 98)) tx L hL (by rw [x_p_ne (by omega)]; exact hln) (fun j hj => by rw [x_p_ne (by omega)]; exact htx j hj) ht7 (pp + 1, false) hp1 k9 hk9 hn) (cwV 1 C.1.2.2.2.2 gX12_parsesCommand_X12_parsesB rfl rfl rfl (by decide +kernel) ⟨Nat.le_of_ble_eq_true rfl, Nat.le_of_ble_eq_true rfl⟩) x_k175 (q := (RX12, TX12, 16)) rfl rfl rfl rfl (Nat.le_of_ble_eq_true rfl) dX12_parsesCommand_276 ⟨Nat.le_of_ble_eq_true rfl, Nat.le_of_ble_eq_true rfl⟩ ?_
  refine a_toD (d2 := x_p (x_p (x_p (x_p (ms_d d (ms_fs tx L (ms_fs tx L (ms_nd tx L (ms_nd tx L (ms_nd tx L (ms_nd tx L (ms_nd tx L ((pp + 1, false)) 114) 105) 103) 104) 116) 1) 1)) 182 k9 (nI 98)) 182 k9 98) 182 (k9 + 1) (nI (ms_fv tx L (ms_nd tx L (ms_nd tx L (ms_nd tx L (ms_nd tx L (ms_nd tx L ((pp + 1, false)) 114) 105) 103) 104) 116) 1))) 182 (k9 + 2) (nI (ms_fv tx L (ms_fs tx L (ms_nd tx L (ms_nd tx L (ms_nd tx L (ms_nd tx L (ms_nd tx L ((pp + 1, false)) 114) 105) 103) 104) 116) 1) 1))) (by rw [ms_d_w (by omega)]) ?_
  refine a_goto C dX12_parsesCommand_279 (tgt := 385) (by decide) ?_
  exact a_vret C hlocks hr dX12_parsesCommand_385 rfl

set_option maxHeartbeats 1000000 in
set_option maxRecDepth 100000 in
theorem c_M_parsesCommand_6 (l : Launch) (G : xG) (d : xd) (tx : Nat → Nat) (L : Nat) (hL : L ≤ 60) (hln : d 175 7 = nI L) (htx : ∀ j, j < L → d 180 j = nI (tx j)) (ht7 : ∀ j, j < L → tx j < 128) (pp : Nat) (hpL : pp ≤ L) (k9 : Nat) (hk9 : k9 < 177) (hn : ¬ tp_c tx L (pp + 1) 105 = true) (hn2 : ¬ tp_c tx L (pp + 1) 102 = true) (h0 : tp_c tx L pp 111 = true) : x_M G l yX12_parsesCommand wsX12_parsesCommand 5 0 0 [.ref (x_b G + 175), .int (nI k9)] (ms_d d (pp, false)) none (x_p (x_p (x_p (ms_d d (ms_fs tx L (ms_nd tx L ((pp + 1, false)) 110) 1)) 182 k9 (nI 111)) 182 k9 111) 182 (k9 + 1) (nI (ms_fv tx L (ms_nd tx L ((pp + 1, false)) 110) 1))) := by
  have iX12 : ∀ w ∈ u_ws RX12 TX12 16, w ∈ wsX12_parsesCommand := by decide +kernel
  refine x_start (cc := cX12_parsesCommand) (maxL := 3) (ret := none) (own := RX12) (by decide) rfl rfl (Nat.le_of_ble_eq_true rfl) (lst := [(0, .ref (x_b G + 175)), (1, .int (nI k9))]) rfl ?_
  intro p e s m args below meth c C hr hlocks
  have hp1 := tp_c_lt h0
  refine a_aload_n C dX12_parsesCommand_0 0 rfl ?_
  refine a_callV C (k := 175) (As := []) (rest := []) (c_M_here l G (ms_d d (pp, false)) tx L hL (by rw [ms_d_row (by omega) (by omega)]; exact hln) (fun j hj => by rw [ms_d_out (by omega)]; exact htx j hj) ht7 (pp, false).1 (by rw [ms_d_13]) (by have := hpL; omega)) (cwV 0 C.1.2.2.2.2 gX12_parsesCommand_X12_here rfl rfl rfl (by decide +kernel) ⟨Nat.le_of_ble_eq_true rfl, Nat.le_of_ble_eq_true rfl⟩) x_k175 (q := (RX12, TX12, 16)) rfl rfl rfl rfl (Nat.le_of_ble_eq_true rfl) dX12_parsesCommand_1 ⟨Nat.le_of_ble_eq_true rfl, Nat.le_of_ble_eq_true rfl⟩ ?_
  refine a_top (y := (nI 111)) ((tp_h_c ht7 (by omega)).mpr h0) ?_
  refine a_istore_n C dX12_parsesCommand_4 (by decide) (lst2 := [(2, .int (nI 111)), (0, .ref (x_b G + 175)), (1, .int (nI k9))]) rfl ?_
  refine a_aload_n C dX12_parsesCommand_5 1 rfl ?_
  refine a_dup C dX12_parsesCommand_6 rfl ?_
  refine a_getI C (k := 175) iX12 x_k175 rfl (j := 13) rfl (by decide) (by decide +kernel) dX12_parsesCommand_7 ?_
  refine a_top (y := (nI pp)) ms_d_13 ?_
  refine a_iconst C dX12_parsesCommand_10 (v := 1) (by decide) ?_
  refine a_iadd C dX12_parsesCommand_11 ?_
  refine a_top (y := (nI (pp + 1))) (nI_1 pp) ?_
  refine a_putI C (k := 175) iX12 tyX12_ok nmX12 x_k175 rfl (j := 13) rfl (by decide) (by decide +kernel) rfl (ty := .int) (by decide +kernel) rfl rfl dX12_parsesCommand_12 ?_
  refine a_toD (d2 := ms_d d (pp + 1, false)) ms_d_p ?_
  refine a_aload_n C dX12_parsesCommand_15 1 rfl ?_
  refine a_getR C (k := 175) iX12 x_k175 rfl (j := 15) rfl (by decide) (by decide +kernel) dX12_parsesCommand_16 ?_
  refine a_iload_n C dX12_parsesCommand_19 2 rfl ?_
  refine a_iload_n C dX12_parsesCommand_20 0 rfl ?_
  refine a_iastN C (k := 182) x_k182 (i := k9) rfl (by omega) (by first | decide | omega) dX12_parsesCommand_21 ?_
  refine a_iload_n C dX12_parsesCommand_22 0 rfl ?_
  refine a_tableIn C dX12_parsesCommand_23 (by decide +kernel) (by decide +kernel) (off := 178) (by decide +kernel) (tgt := 201) (by decide) ?_
  refine a_aload_n C dX12_parsesCommand_201 1 rfl ?_
  refine a_iload_n C dX12_parsesCommand_202 2 rfl ?_
  refine a_toD (d2 := ms_d (x_p d 182 k9 (nI 111)) (pp + 1, false)) (ms_d_w (by omega)).symm ?_
  refine a_callV C (k := 175) (As := [.int (nI k9)]) (rest := []) (c_M_parsesO_6 l G (x_p d 182 k9 (nI 111)) tx L hL (by rw [x_p_ne (by omega)]; exact hln) (fun j hj => by rw [x_p_ne (by omega)]; exact htx j hj) ht7 (pp + 1, false) hp1 k9 hk9 hn hn2) (cwV 1 C.1.2.2.2.2 gX12_parsesCommand_X12_parsesO rfl rfl rfl (by decide +kernel) ⟨Nat.le_of_ble_eq_true rfl, Nat.le_of_ble_eq_true rfl⟩) x_k175 (q := (RX12, TX12, 16)) rfl rfl rfl rfl (Nat.le_of_ble_eq_true rfl) dX12_parsesCommand_203 ⟨Nat.le_of_ble_eq_true rfl, Nat.le_of_ble_eq_true rfl⟩ ?_
  refine a_toD (d2 := x_p (x_p (x_p (ms_d d (ms_fs tx L (ms_nd tx L ((pp + 1, false)) 110) 1)) 182 k9 (nI 111)) 182 k9 111) 182 (k9 + 1) (nI (ms_fv tx L (ms_nd tx L ((pp + 1, false)) 110) 1))) (by rw [ms_d_w (by omega)]) ?_
  refine a_goto C dX12_parsesCommand_206 (tgt := 385) (by decide) ?_
  exact a_vret C hlocks hr dX12_parsesCommand_385 rfl

set_option maxHeartbeats 1000000 in
set_option maxRecDepth 100000 in
theorem c_M_parsesCommand_7 (l : Launch) (G : xG) (d : xd) (tx : Nat → Nat) (L : Nat) (hL : L ≤ 60) (hln : d 175 7 = nI L) (htx : ∀ j, j < L → d 180 j = nI (tx j)) (ht7 : ∀ j, j < L → tx j < 128) (pp : Nat) (hpL : pp ≤ L) (k9 : Nat) (hk9 : k9 < 177) (hn : ¬ tp_c tx L (pp + 1) 105 = true) (hc : tp_c tx L (pp + 1) 102 = true) (h0 : tp_c tx L pp 111 = true) : x_M G l yX12_parsesCommand wsX12_parsesCommand 5 0 0 [.ref (x_b G + 175), .int (nI k9)] (ms_d d (pp, false)) none (x_p (x_p (x_p (ms_d d (ms_fs tx L (ms_nd tx L (ms_nd tx L ((pp + 1, false)) 102) 102) 1)) 182 k9 (nI 111)) 182 k9 102) 182 (k9 + 1) (nI (ms_fv tx L (ms_nd tx L (ms_nd tx L ((pp + 1, false)) 102) 102) 1))) := by
  have iX12 : ∀ w ∈ u_ws RX12 TX12 16, w ∈ wsX12_parsesCommand := by decide +kernel
  refine x_start (cc := cX12_parsesCommand) (maxL := 3) (ret := none) (own := RX12) (by decide) rfl rfl (Nat.le_of_ble_eq_true rfl) (lst := [(0, .ref (x_b G + 175)), (1, .int (nI k9))]) rfl ?_
  intro p e s m args below meth c C hr hlocks
  have hp1 := tp_c_lt h0
  refine a_aload_n C dX12_parsesCommand_0 0 rfl ?_
  refine a_callV C (k := 175) (As := []) (rest := []) (c_M_here l G (ms_d d (pp, false)) tx L hL (by rw [ms_d_row (by omega) (by omega)]; exact hln) (fun j hj => by rw [ms_d_out (by omega)]; exact htx j hj) ht7 (pp, false).1 (by rw [ms_d_13]) (by have := hpL; omega)) (cwV 0 C.1.2.2.2.2 gX12_parsesCommand_X12_here rfl rfl rfl (by decide +kernel) ⟨Nat.le_of_ble_eq_true rfl, Nat.le_of_ble_eq_true rfl⟩) x_k175 (q := (RX12, TX12, 16)) rfl rfl rfl rfl (Nat.le_of_ble_eq_true rfl) dX12_parsesCommand_1 ⟨Nat.le_of_ble_eq_true rfl, Nat.le_of_ble_eq_true rfl⟩ ?_
  refine a_top (y := (nI 111)) ((tp_h_c ht7 (by omega)).mpr h0) ?_
  refine a_istore_n C dX12_parsesCommand_4 (by decide) (lst2 := [(2, .int (nI 111)), (0, .ref (x_b G + 175)), (1, .int (nI k9))]) rfl ?_
  refine a_aload_n C dX12_parsesCommand_5 1 rfl ?_
  refine a_dup C dX12_parsesCommand_6 rfl ?_
  refine a_getI C (k := 175) iX12 x_k175 rfl (j := 13) rfl (by decide) (by decide +kernel) dX12_parsesCommand_7 ?_
  refine a_top (y := (nI pp)) ms_d_13 ?_
  refine a_iconst C dX12_parsesCommand_10 (v := 1) (by decide) ?_
  refine a_iadd C dX12_parsesCommand_11 ?_
  refine a_top (y := (nI (pp + 1))) (nI_1 pp) ?_
  refine a_putI C (k := 175) iX12 tyX12_ok nmX12 x_k175 rfl (j := 13) rfl (by decide) (by decide +kernel) rfl (ty := .int) (by decide +kernel) rfl rfl dX12_parsesCommand_12 ?_
  refine a_toD (d2 := ms_d d (pp + 1, false)) ms_d_p ?_
  refine a_aload_n C dX12_parsesCommand_15 1 rfl ?_
  refine a_getR C (k := 175) iX12 x_k175 rfl (j := 15) rfl (by decide) (by decide +kernel) dX12_parsesCommand_16 ?_
  refine a_iload_n C dX12_parsesCommand_19 2 rfl ?_
  refine a_iload_n C dX12_parsesCommand_20 0 rfl ?_
  refine a_iastN C (k := 182) x_k182 (i := k9) rfl (by omega) (by first | decide | omega) dX12_parsesCommand_21 ?_
  refine a_iload_n C dX12_parsesCommand_22 0 rfl ?_
  refine a_tableIn C dX12_parsesCommand_23 (by decide +kernel) (by decide +kernel) (off := 178) (by decide +kernel) (tgt := 201) (by decide) ?_
  refine a_aload_n C dX12_parsesCommand_201 1 rfl ?_
  refine a_iload_n C dX12_parsesCommand_202 2 rfl ?_
  refine a_toD (d2 := ms_d (x_p d 182 k9 (nI 111)) (pp + 1, false)) (ms_d_w (by omega)).symm ?_
  refine a_callV C (k := 175) (As := [.int (nI k9)]) (rest := []) (c_M_parsesO_7 l G (x_p d 182 k9 (nI 111)) tx L hL (by rw [x_p_ne (by omega)]; exact hln) (fun j hj => by rw [x_p_ne (by omega)]; exact htx j hj) ht7 (pp + 1, false) hp1 k9 hk9 hn hc) (cwV 1 C.1.2.2.2.2 gX12_parsesCommand_X12_parsesO rfl rfl rfl (by decide +kernel) ⟨Nat.le_of_ble_eq_true rfl, Nat.le_of_ble_eq_true rfl⟩) x_k175 (q := (RX12, TX12, 16)) rfl rfl rfl rfl (Nat.le_of_ble_eq_true rfl) dX12_parsesCommand_203 ⟨Nat.le_of_ble_eq_true rfl, Nat.le_of_ble_eq_true rfl⟩ ?_
  refine a_toD (d2 := x_p (x_p (x_p (ms_d d (ms_fs tx L (ms_nd tx L (ms_nd tx L ((pp + 1, false)) 102) 102) 1)) 182 k9 (nI 111)) 182 k9 102) 182 (k9 + 1) (nI (ms_fv tx L (ms_nd tx L (ms_nd tx L ((pp + 1, false)) 102) 102) 1))) (by rw [ms_d_w (by omega)]) ?_
  refine a_goto C dX12_parsesCommand_206 (tgt := 385) (by decide) ?_
  exact a_vret C hlocks hr dX12_parsesCommand_385 rfl

set_option maxHeartbeats 1000000 in
set_option maxRecDepth 100000 in
theorem c_M_parsesCommand_8 (l : Launch) (G : xG) (d : xd) (tx : Nat → Nat) (L : Nat) (hL : L ≤ 60) (hln : d 175 7 = nI L) (htx : ∀ j, j < L → d 180 j = nI (tx j)) (ht7 : ∀ j, j < L → tx j < 128) (pp : Nat) (hpL : pp ≤ L) (k9 : Nat) (hk9 : k9 < 177) (h0 : tp_c tx L pp 109 = true) : x_M G l yX12_parsesCommand wsX12_parsesCommand 5 0 0 [.ref (x_b G + 175), .int (nI k9)] (ms_d d (pp, false)) none (x_p (x_p (ms_d d (ms_fs tx L (ms_nd tx L (ms_nd tx L (ms_nd tx L (pp + 1, false) 111) 116) 104) 1)) 182 k9 (nI 109)) 182 (k9 + 1) (nI (ms_fv tx L (ms_nd tx L (ms_nd tx L (ms_nd tx L (pp + 1, false) 111) 116) 104) 1))) := by
  have iX12 : ∀ w ∈ u_ws RX12 TX12 16, w ∈ wsX12_parsesCommand := by decide +kernel
  refine x_start (cc := cX12_parsesCommand) (maxL := 3) (ret := none) (own := RX12) (by decide) rfl rfl (Nat.le_of_ble_eq_true rfl) (lst := [(0, .ref (x_b G + 175)), (1, .int (nI k9))]) rfl ?_
  intro p e s m args below meth c C hr hlocks
  have hp1 := tp_c_lt h0
  refine a_aload_n C dX12_parsesCommand_0 0 rfl ?_
  refine a_callV C (k := 175) (As := []) (rest := []) (c_M_here l G (ms_d d (pp, false)) tx L hL (by rw [ms_d_row (by omega) (by omega)]; exact hln) (fun j hj => by rw [ms_d_out (by omega)]; exact htx j hj) ht7 (pp, false).1 (by rw [ms_d_13]) (by have := hpL; omega)) (cwV 0 C.1.2.2.2.2 gX12_parsesCommand_X12_here rfl rfl rfl (by decide +kernel) ⟨Nat.le_of_ble_eq_true rfl, Nat.le_of_ble_eq_true rfl⟩) x_k175 (q := (RX12, TX12, 16)) rfl rfl rfl rfl (Nat.le_of_ble_eq_true rfl) dX12_parsesCommand_1 ⟨Nat.le_of_ble_eq_true rfl, Nat.le_of_ble_eq_true rfl⟩ ?_
  refine a_top (y := (nI 109)) ((tp_h_c ht7 (by omega)).mpr h0) ?_
  refine a_istore_n C dX12_parsesCommand_4 (by decide) (lst2 := [(2, .int (nI 109)), (0, .ref (x_b G + 175)), (1, .int (nI k9))]) rfl ?_
  refine a_aload_n C dX12_parsesCommand_5 1 rfl ?_
  refine a_dup C dX12_parsesCommand_6 rfl ?_
  refine a_getI C (k := 175) iX12 x_k175 rfl (j := 13) rfl (by decide) (by decide +kernel) dX12_parsesCommand_7 ?_
  refine a_top (y := (nI pp)) ms_d_13 ?_
  refine a_iconst C dX12_parsesCommand_10 (v := 1) (by decide) ?_
  refine a_iadd C dX12_parsesCommand_11 ?_
  refine a_top (y := (nI (pp + 1))) (nI_1 pp) ?_
  refine a_putI C (k := 175) iX12 tyX12_ok nmX12 x_k175 rfl (j := 13) rfl (by decide) (by decide +kernel) rfl (ty := .int) (by decide +kernel) rfl rfl dX12_parsesCommand_12 ?_
  refine a_toD (d2 := ms_d d (pp + 1, false)) ms_d_p ?_
  refine a_aload_n C dX12_parsesCommand_15 1 rfl ?_
  refine a_getR C (k := 175) iX12 x_k175 rfl (j := 15) rfl (by decide) (by decide +kernel) dX12_parsesCommand_16 ?_
  refine a_iload_n C dX12_parsesCommand_19 2 rfl ?_
  refine a_iload_n C dX12_parsesCommand_20 0 rfl ?_
  refine a_iastN C (k := 182) x_k182 (i := k9) rfl (by omega) (by first | decide | omega) dX12_parsesCommand_21 ?_
  refine a_iload_n C dX12_parsesCommand_22 0 rfl ?_
  refine a_tableIn C dX12_parsesCommand_23 (by decide +kernel) (by decide +kernel) (off := 259) (by decide +kernel) (tgt := 282) (by decide) ?_
  refine a_aload_n C dX12_parsesCommand_282 1 rfl ?_
  refine a_bipush C dX12_parsesCommand_283 (v := 111) (by decide) ?_
  refine a_bipush C dX12_parsesCommand_285 (v := 116) (by decide) ?_
  refine a_bipush C dX12_parsesCommand_287 (v := 104) (by decide) ?_
  refine a_callV C (k := 175) (As := [.int 111, .int 116, .int 104]) (rest := []) (c_M_needsThree l G (x_p (ms_d d (pp + 1, false)) 182 k9 (nI 109)) tx L hL (by rw [x_p_ne (by omega), ms_d_row (by omega) (by omega)]; exact hln) (fun j hj => by rw [x_p_ne (by omega), ms_d_out (by omega)]; exact htx j hj) ht7 (pp + 1, false) (by rw [x_p_ne (by omega), ms_d_13]) (by rw [x_p_ne (by omega), ms_d_14]) hp1 111 116 104 (by omega) (by omega) (by omega)) (cwV 3 C.1.2.2.2.2 gX12_parsesCommand_X12_needsThree rfl rfl rfl (by decide +kernel) ⟨Nat.le_of_ble_eq_true rfl, Nat.le_of_ble_eq_true rfl⟩) x_k175 (q := (RX12, TX12, 16)) rfl rfl rfl rfl (Nat.le_of_ble_eq_true rfl) dX12_parsesCommand_289 ⟨Nat.le_of_ble_eq_true rfl, Nat.le_of_ble_eq_true rfl⟩ ?_
  refine a_toD (d2 := x_p (ms_d d (ms_nd tx L (ms_nd tx L (ms_nd tx L (pp + 1, false) 111) 116) 104)) 182 k9 (nI 109)) (by rw [ms_d_w (by omega), ms_d_ms]) ?_
  refine a_aload_n C dX12_parsesCommand_292 1 rfl ?_
  refine a_getR C (k := 175) iX12 x_k175 rfl (j := 15) rfl (by decide) (by decide +kernel) dX12_parsesCommand_293 ?_
  refine a_iload_n C dX12_parsesCommand_296 2 rfl ?_
  refine a_iconst C dX12_parsesCommand_297 (v := 1) (by decide) ?_
  refine a_iadd C dX12_parsesCommand_298 ?_
  refine a_aload_n C dX12_parsesCommand_299 1 rfl ?_
  refine a_iconst C dX12_parsesCommand_300 (v := 1) (by decide) ?_
  refine a_callV C (k := 175) (As := [.int 1]) (rest := [.int ((nI k9) + 1), .ref (x_b G + 182)]) (c_M_figures l G (x_p (ms_d d (ms_nd tx L (ms_nd tx L (ms_nd tx L (pp + 1, false) 111) 116) 104)) 182 k9 (nI 109)) tx L hL (by rw [x_p_ne (by omega), ms_d_row (by omega) (by omega)]; exact hln) (fun j hj => by rw [x_p_ne (by omega), ms_d_out (by omega)]; exact htx j hj) ht7 (ms_nd tx L (ms_nd tx L (ms_nd tx L (pp + 1, false) 111) 116) 104) (by rw [x_p_ne (by omega), ms_d_13]) (by rw [x_p_ne (by omega), ms_d_14]) (ms_nd_le (ms_nd_le (ms_nd_le hp1))) 1 (by omega)) (cwV 1 C.1.2.2.2.2 gX12_parsesCommand_X12_figures rfl rfl rfl (by decide +kernel) ⟨Nat.le_of_ble_eq_true rfl, Nat.le_of_ble_eq_true rfl⟩) x_k175 (q := (RX12, TX12, 16)) rfl rfl rfl rfl (Nat.le_of_ble_eq_true rfl) dX12_parsesCommand_301 ⟨Nat.le_of_ble_eq_true rfl, Nat.le_of_ble_eq_true rfl⟩ ?_
  refine a_toD (d2 := x_p (ms_d d (ms_fs tx L (ms_nd tx L (ms_nd tx L (ms_nd tx L (pp + 1, false) 111) 116) 104) 1)) 182 k9 (nI 109)) (by rw [ms_d_w (by omega), ms_d_ms]) ?_
  refine a_iastN C (k := 182) x_k182 (i := k9 + 1) (x_add2 (a := k9) (b := 1) rfl rfl) (by omega) (by first | decide | omega) dX12_parsesCommand_304 ?_
  refine a_goto C dX12_parsesCommand_305 (tgt := 385) (by decide) ?_
  exact a_vret C hlocks hr dX12_parsesCommand_385 rfl

set_option maxHeartbeats 1000000 in
set_option maxRecDepth 100000 in
theorem c_M_parsesCommand_9 (l : Launch) (G : xG) (d : xd) (tx : Nat → Nat) (L : Nat) (hL : L ≤ 60) (hln : d 175 7 = nI L) (htx : ∀ j, j < L → d 180 j = nI (tx j)) (ht7 : ∀ j, j < L → tx j < 128) (pp : Nat) (hpL : pp ≤ L) (k9 : Nat) (hk9 : k9 < 177) (h0 : tp_c tx L pp 99 = true) : x_M G l yX12_parsesCommand wsX12_parsesCommand 5 0 0 [.ref (x_b G + 175), .int (nI k9)] (ms_d d (pp, false)) none (x_p (x_p (ms_d d (ms_fs tx L (ms_nd tx L (ms_nd tx L (pp + 1, false) 97) 112) 1)) 182 k9 (nI 99)) 182 (k9 + 1) (nI (ms_fv tx L (ms_nd tx L (ms_nd tx L (pp + 1, false) 97) 112) 1))) := by
  have iX12 : ∀ w ∈ u_ws RX12 TX12 16, w ∈ wsX12_parsesCommand := by decide +kernel
  refine x_start (cc := cX12_parsesCommand) (maxL := 3) (ret := none) (own := RX12) (by decide) rfl rfl (Nat.le_of_ble_eq_true rfl) (lst := [(0, .ref (x_b G + 175)), (1, .int (nI k9))]) rfl ?_
  intro p e s m args below meth c C hr hlocks
  have hp1 := tp_c_lt h0
  refine a_aload_n C dX12_parsesCommand_0 0 rfl ?_
  refine a_callV C (k := 175) (As := []) (rest := []) (c_M_here l G (ms_d d (pp, false)) tx L hL (by rw [ms_d_row (by omega) (by omega)]; exact hln) (fun j hj => by rw [ms_d_out (by omega)]; exact htx j hj) ht7 (pp, false).1 (by rw [ms_d_13]) (by have := hpL; omega)) (cwV 0 C.1.2.2.2.2 gX12_parsesCommand_X12_here rfl rfl rfl (by decide +kernel) ⟨Nat.le_of_ble_eq_true rfl, Nat.le_of_ble_eq_true rfl⟩) x_k175 (q := (RX12, TX12, 16)) rfl rfl rfl rfl (Nat.le_of_ble_eq_true rfl) dX12_parsesCommand_1 ⟨Nat.le_of_ble_eq_true rfl, Nat.le_of_ble_eq_true rfl⟩ ?_
  refine a_top (y := (nI 99)) ((tp_h_c ht7 (by omega)).mpr h0) ?_
  refine a_istore_n C dX12_parsesCommand_4 (by decide) (lst2 := [(2, .int (nI 99)), (0, .ref (x_b G + 175)), (1, .int (nI k9))]) rfl ?_
  refine a_aload_n C dX12_parsesCommand_5 1 rfl ?_
  refine a_dup C dX12_parsesCommand_6 rfl ?_
  refine a_getI C (k := 175) iX12 x_k175 rfl (j := 13) rfl (by decide) (by decide +kernel) dX12_parsesCommand_7 ?_
  refine a_top (y := (nI pp)) ms_d_13 ?_
  refine a_iconst C dX12_parsesCommand_10 (v := 1) (by decide) ?_
  refine a_iadd C dX12_parsesCommand_11 ?_
  refine a_top (y := (nI (pp + 1))) (nI_1 pp) ?_
  refine a_putI C (k := 175) iX12 tyX12_ok nmX12 x_k175 rfl (j := 13) rfl (by decide) (by decide +kernel) rfl (ty := .int) (by decide +kernel) rfl rfl dX12_parsesCommand_12 ?_
  refine a_toD (d2 := ms_d d (pp + 1, false)) ms_d_p ?_
  refine a_aload_n C dX12_parsesCommand_15 1 rfl ?_
  refine a_getR C (k := 175) iX12 x_k175 rfl (j := 15) rfl (by decide) (by decide +kernel) dX12_parsesCommand_16 ?_
  refine a_iload_n C dX12_parsesCommand_19 2 rfl ?_
  refine a_iload_n C dX12_parsesCommand_20 0 rfl ?_
  refine a_iastN C (k := 182) x_k182 (i := k9) rfl (by omega) (by first | decide | omega) dX12_parsesCommand_21 ?_
  refine a_iload_n C dX12_parsesCommand_22 0 rfl ?_
  refine a_tableIn C dX12_parsesCommand_23 (by decide +kernel) (by decide +kernel) (off := 285) (by decide +kernel) (tgt := 308) (by decide) ?_
  refine a_aload_n C dX12_parsesCommand_308 1 rfl ?_
  refine a_bipush C dX12_parsesCommand_309 (v := 97) (by decide) ?_
  refine a_callV C (k := 175) (As := [.int 97]) (rest := []) (c_M_needs l G (x_p (ms_d d (pp + 1, false)) 182 k9 (nI 99)) tx L hL (by rw [x_p_ne (by omega), ms_d_row (by omega) (by omega)]; exact hln) (fun j hj => by rw [x_p_ne (by omega), ms_d_out (by omega)]; exact htx j hj) ht7 (pp + 1, false) (by rw [x_p_ne (by omega), ms_d_13]) (by rw [x_p_ne (by omega), ms_d_14]) hp1 97 (by omega)) (cwV 1 C.1.2.2.2.2 gX12_parsesCommand_X12_needs rfl rfl rfl (by decide +kernel) ⟨Nat.le_of_ble_eq_true rfl, Nat.le_of_ble_eq_true rfl⟩) x_k175 (q := (RX12, TX12, 16)) rfl rfl rfl rfl (Nat.le_of_ble_eq_true rfl) dX12_parsesCommand_311 ⟨Nat.le_of_ble_eq_true rfl, Nat.le_of_ble_eq_true rfl⟩ ?_
  refine a_toD (d2 := x_p (ms_d d (ms_nd tx L (pp + 1, false) 97)) 182 k9 (nI 99)) (by rw [ms_d_w (by omega), ms_d_ms]) ?_
  refine a_aload_n C dX12_parsesCommand_314 1 rfl ?_
  refine a_bipush C dX12_parsesCommand_315 (v := 112) (by decide) ?_
  refine a_callV C (k := 175) (As := [.int 112]) (rest := []) (c_M_needs l G (x_p (ms_d d (ms_nd tx L (pp + 1, false) 97)) 182 k9 (nI 99)) tx L hL (by rw [x_p_ne (by omega), ms_d_row (by omega) (by omega)]; exact hln) (fun j hj => by rw [x_p_ne (by omega), ms_d_out (by omega)]; exact htx j hj) ht7 (ms_nd tx L (pp + 1, false) 97) (by rw [x_p_ne (by omega), ms_d_13]) (by rw [x_p_ne (by omega), ms_d_14]) (ms_nd_le hp1) 112 (by omega)) (cwV 1 C.1.2.2.2.2 gX12_parsesCommand_X12_needs rfl rfl rfl (by decide +kernel) ⟨Nat.le_of_ble_eq_true rfl, Nat.le_of_ble_eq_true rfl⟩) x_k175 (q := (RX12, TX12, 16)) rfl rfl rfl rfl (Nat.le_of_ble_eq_true rfl) dX12_parsesCommand_317 ⟨Nat.le_of_ble_eq_true rfl, Nat.le_of_ble_eq_true rfl⟩ ?_
  refine a_toD (d2 := x_p (ms_d d (ms_nd tx L (ms_nd tx L (pp + 1, false) 97) 112)) 182 k9 (nI 99)) (by rw [ms_d_w (by omega), ms_d_ms]) ?_
  refine a_aload_n C dX12_parsesCommand_320 1 rfl ?_
  refine a_getR C (k := 175) iX12 x_k175 rfl (j := 15) rfl (by decide) (by decide +kernel) dX12_parsesCommand_321 ?_
  refine a_iload_n C dX12_parsesCommand_324 2 rfl ?_
  refine a_iconst C dX12_parsesCommand_325 (v := 1) (by decide) ?_
  refine a_iadd C dX12_parsesCommand_326 ?_
  refine a_aload_n C dX12_parsesCommand_327 1 rfl ?_
  refine a_iconst C dX12_parsesCommand_328 (v := 1) (by decide) ?_
  refine a_callV C (k := 175) (As := [.int 1]) (rest := [.int ((nI k9) + 1), .ref (x_b G + 182)]) (c_M_figures l G (x_p (ms_d d (ms_nd tx L (ms_nd tx L (pp + 1, false) 97) 112)) 182 k9 (nI 99)) tx L hL (by rw [x_p_ne (by omega), ms_d_row (by omega) (by omega)]; exact hln) (fun j hj => by rw [x_p_ne (by omega), ms_d_out (by omega)]; exact htx j hj) ht7 (ms_nd tx L (ms_nd tx L (pp + 1, false) 97) 112) (by rw [x_p_ne (by omega), ms_d_13]) (by rw [x_p_ne (by omega), ms_d_14]) (ms_nd_le (ms_nd_le hp1)) 1 (by omega)) (cwV 1 C.1.2.2.2.2 gX12_parsesCommand_X12_figures rfl rfl rfl (by decide +kernel) ⟨Nat.le_of_ble_eq_true rfl, Nat.le_of_ble_eq_true rfl⟩) x_k175 (q := (RX12, TX12, 16)) rfl rfl rfl rfl (Nat.le_of_ble_eq_true rfl) dX12_parsesCommand_329 ⟨Nat.le_of_ble_eq_true rfl, Nat.le_of_ble_eq_true rfl⟩ ?_
  refine a_toD (d2 := x_p (ms_d d (ms_fs tx L (ms_nd tx L (ms_nd tx L (pp + 1, false) 97) 112) 1)) 182 k9 (nI 99)) (by rw [ms_d_w (by omega), ms_d_ms]) ?_
  refine a_iastN C (k := 182) x_k182 (i := k9 + 1) (x_add2 (a := k9) (b := 1) rfl rfl) (by omega) (by first | decide | omega) dX12_parsesCommand_332 ?_
  refine a_goto C dX12_parsesCommand_333 (tgt := 385) (by decide) ?_
  exact a_vret C hlocks hr dX12_parsesCommand_385 rfl

set_option maxHeartbeats 1000000 in
set_option maxRecDepth 100000 in
theorem c_M_parsesCommand_10 (l : Launch) (G : xG) (d : xd) (tx : Nat → Nat) (L : Nat) (hL : L ≤ 60) (hln : d 175 7 = nI L) (htx : ∀ j, j < L → d 180 j = nI (tx j)) (ht7 : ∀ j, j < L → tx j < 128) (pp : Nat) (hpL : pp ≤ L) (k9 : Nat) (hk9 : k9 < 177) (h0 : tp_c tx L pp 110 = true) : x_M G l yX12_parsesCommand wsX12_parsesCommand 5 0 0 [.ref (x_b G + 175), .int (nI k9)] (ms_d d (pp, false)) none (x_p (ms_d d (ms_nd tx L (ms_nd tx L (ms_nd tx L (ms_nd tx L (pp + 1, false) 105) 103) 104) 116)) 182 k9 (nI 110)) := by
  have iX12 : ∀ w ∈ u_ws RX12 TX12 16, w ∈ wsX12_parsesCommand := by decide +kernel
  refine x_start (cc := cX12_parsesCommand) (maxL := 3) (ret := none) (own := RX12) (by decide) rfl rfl (Nat.le_of_ble_eq_true rfl) (lst := [(0, .ref (x_b G + 175)), (1, .int (nI k9))]) rfl ?_
  intro p e s m args below meth c C hr hlocks
  have hp1 := tp_c_lt h0
  refine a_aload_n C dX12_parsesCommand_0 0 rfl ?_
  refine a_callV C (k := 175) (As := []) (rest := []) (c_M_here l G (ms_d d (pp, false)) tx L hL (by rw [ms_d_row (by omega) (by omega)]; exact hln) (fun j hj => by rw [ms_d_out (by omega)]; exact htx j hj) ht7 (pp, false).1 (by rw [ms_d_13]) (by have := hpL; omega)) (cwV 0 C.1.2.2.2.2 gX12_parsesCommand_X12_here rfl rfl rfl (by decide +kernel) ⟨Nat.le_of_ble_eq_true rfl, Nat.le_of_ble_eq_true rfl⟩) x_k175 (q := (RX12, TX12, 16)) rfl rfl rfl rfl (Nat.le_of_ble_eq_true rfl) dX12_parsesCommand_1 ⟨Nat.le_of_ble_eq_true rfl, Nat.le_of_ble_eq_true rfl⟩ ?_
  refine a_top (y := (nI 110)) ((tp_h_c ht7 (by omega)).mpr h0) ?_
  refine a_istore_n C dX12_parsesCommand_4 (by decide) (lst2 := [(2, .int (nI 110)), (0, .ref (x_b G + 175)), (1, .int (nI k9))]) rfl ?_
  refine a_aload_n C dX12_parsesCommand_5 1 rfl ?_
  refine a_dup C dX12_parsesCommand_6 rfl ?_
  refine a_getI C (k := 175) iX12 x_k175 rfl (j := 13) rfl (by decide) (by decide +kernel) dX12_parsesCommand_7 ?_
  refine a_top (y := (nI pp)) ms_d_13 ?_
  refine a_iconst C dX12_parsesCommand_10 (v := 1) (by decide) ?_
  refine a_iadd C dX12_parsesCommand_11 ?_
  refine a_top (y := (nI (pp + 1))) (nI_1 pp) ?_
  refine a_putI C (k := 175) iX12 tyX12_ok nmX12 x_k175 rfl (j := 13) rfl (by decide) (by decide +kernel) rfl (ty := .int) (by decide +kernel) rfl rfl dX12_parsesCommand_12 ?_
  refine a_toD (d2 := ms_d d (pp + 1, false)) ms_d_p ?_
  refine a_aload_n C dX12_parsesCommand_15 1 rfl ?_
  refine a_getR C (k := 175) iX12 x_k175 rfl (j := 15) rfl (by decide) (by decide +kernel) dX12_parsesCommand_16 ?_
  refine a_iload_n C dX12_parsesCommand_19 2 rfl ?_
  refine a_iload_n C dX12_parsesCommand_20 0 rfl ?_
  refine a_iastN C (k := 182) x_k182 (i := k9) rfl (by omega) (by first | decide | omega) dX12_parsesCommand_21 ?_
  refine a_iload_n C dX12_parsesCommand_22 0 rfl ?_
  refine a_tableIn C dX12_parsesCommand_23 (by decide +kernel) (by decide +kernel) (off := 313) (by decide +kernel) (tgt := 336) (by decide) ?_
  refine a_aload_n C dX12_parsesCommand_336 1 rfl ?_
  refine a_bipush C dX12_parsesCommand_337 (v := 105) (by decide) ?_
  refine a_bipush C dX12_parsesCommand_339 (v := 103) (by decide) ?_
  refine a_bipush C dX12_parsesCommand_341 (v := 104) (by decide) ?_
  refine a_callV C (k := 175) (As := [.int 105, .int 103, .int 104]) (rest := []) (c_M_needsThree l G (x_p (ms_d d (pp + 1, false)) 182 k9 (nI 110)) tx L hL (by rw [x_p_ne (by omega), ms_d_row (by omega) (by omega)]; exact hln) (fun j hj => by rw [x_p_ne (by omega), ms_d_out (by omega)]; exact htx j hj) ht7 (pp + 1, false) (by rw [x_p_ne (by omega), ms_d_13]) (by rw [x_p_ne (by omega), ms_d_14]) hp1 105 103 104 (by omega) (by omega) (by omega)) (cwV 3 C.1.2.2.2.2 gX12_parsesCommand_X12_needsThree rfl rfl rfl (by decide +kernel) ⟨Nat.le_of_ble_eq_true rfl, Nat.le_of_ble_eq_true rfl⟩) x_k175 (q := (RX12, TX12, 16)) rfl rfl rfl rfl (Nat.le_of_ble_eq_true rfl) dX12_parsesCommand_343 ⟨Nat.le_of_ble_eq_true rfl, Nat.le_of_ble_eq_true rfl⟩ ?_
  refine a_toD (d2 := x_p (ms_d d (ms_nd tx L (ms_nd tx L (ms_nd tx L (pp + 1, false) 105) 103) 104)) 182 k9 (nI 110)) (by rw [ms_d_w (by omega), ms_d_ms]) ?_
  refine a_aload_n C dX12_parsesCommand_346 1 rfl ?_
  refine a_bipush C dX12_parsesCommand_347 (v := 116) (by decide) ?_
  refine a_callV C (k := 175) (As := [.int 116]) (rest := []) (c_M_needs l G (x_p (ms_d d (ms_nd tx L (ms_nd tx L (ms_nd tx L (pp + 1, false) 105) 103) 104)) 182 k9 (nI 110)) tx L hL (by rw [x_p_ne (by omega), ms_d_row (by omega) (by omega)]; exact hln) (fun j hj => by rw [x_p_ne (by omega), ms_d_out (by omega)]; exact htx j hj) ht7 (ms_nd tx L (ms_nd tx L (ms_nd tx L (pp + 1, false) 105) 103) 104) (by rw [x_p_ne (by omega), ms_d_13]) (by rw [x_p_ne (by omega), ms_d_14]) (ms_nd_le (ms_nd_le (ms_nd_le hp1))) 116 (by omega)) (cwV 1 C.1.2.2.2.2 gX12_parsesCommand_X12_needs rfl rfl rfl (by decide +kernel) ⟨Nat.le_of_ble_eq_true rfl, Nat.le_of_ble_eq_true rfl⟩) x_k175 (q := (RX12, TX12, 16)) rfl rfl rfl rfl (Nat.le_of_ble_eq_true rfl) dX12_parsesCommand_349 ⟨Nat.le_of_ble_eq_true rfl, Nat.le_of_ble_eq_true rfl⟩ ?_
  refine a_toD (d2 := x_p (ms_d d (ms_nd tx L (ms_nd tx L (ms_nd tx L (ms_nd tx L (pp + 1, false) 105) 103) 104) 116)) 182 k9 (nI 110)) (by rw [ms_d_w (by omega), ms_d_ms]) ?_
  refine a_goto C dX12_parsesCommand_352 (tgt := 385) (by decide) ?_
  exact a_vret C hlocks hr dX12_parsesCommand_385 rfl

set_option maxHeartbeats 1000000 in
set_option maxRecDepth 100000 in
theorem c_M_parsesCommand_11 (l : Launch) (G : xG) (d : xd) (tx : Nat → Nat) (L : Nat) (hL : L ≤ 60) (hln : d 175 7 = nI L) (htx : ∀ j, j < L → d 180 j = nI (tx j)) (ht7 : ∀ j, j < L → tx j < 128) (pp : Nat) (hpL : pp ≤ L) (k9 : Nat) (hk9 : k9 < 177) (h0 : tp_c tx L pp 112 = true) : x_M G l yX12_parsesCommand wsX12_parsesCommand 5 0 0 [.ref (x_b G + 175), .int (nI k9)] (ms_d d (pp, false)) none (x_p (ms_d d (ms_nd tx L (ms_nd tx L (pp + 1, false) 97) 121)) 182 k9 (nI 112)) := by
  have iX12 : ∀ w ∈ u_ws RX12 TX12 16, w ∈ wsX12_parsesCommand := by decide +kernel
  refine x_start (cc := cX12_parsesCommand) (maxL := 3) (ret := none) (own := RX12) (by decide) rfl rfl (Nat.le_of_ble_eq_true rfl) (lst := [(0, .ref (x_b G + 175)), (1, .int (nI k9))]) rfl ?_
  intro p e s m args below meth c C hr hlocks
  have hp1 := tp_c_lt h0
  refine a_aload_n C dX12_parsesCommand_0 0 rfl ?_
  refine a_callV C (k := 175) (As := []) (rest := []) (c_M_here l G (ms_d d (pp, false)) tx L hL (by rw [ms_d_row (by omega) (by omega)]; exact hln) (fun j hj => by rw [ms_d_out (by omega)]; exact htx j hj) ht7 (pp, false).1 (by rw [ms_d_13]) (by have := hpL; omega)) (cwV 0 C.1.2.2.2.2 gX12_parsesCommand_X12_here rfl rfl rfl (by decide +kernel) ⟨Nat.le_of_ble_eq_true rfl, Nat.le_of_ble_eq_true rfl⟩) x_k175 (q := (RX12, TX12, 16)) rfl rfl rfl rfl (Nat.le_of_ble_eq_true rfl) dX12_parsesCommand_1 ⟨Nat.le_of_ble_eq_true rfl, Nat.le_of_ble_eq_true rfl⟩ ?_
  refine a_top (y := (nI 112)) ((tp_h_c ht7 (by omega)).mpr h0) ?_
  refine a_istore_n C dX12_parsesCommand_4 (by decide) (lst2 := [(2, .int (nI 112)), (0, .ref (x_b G + 175)), (1, .int (nI k9))]) rfl ?_
  refine a_aload_n C dX12_parsesCommand_5 1 rfl ?_
  refine a_dup C dX12_parsesCommand_6 rfl ?_
  refine a_getI C (k := 175) iX12 x_k175 rfl (j := 13) rfl (by decide) (by decide +kernel) dX12_parsesCommand_7 ?_
  refine a_top (y := (nI pp)) ms_d_13 ?_
  refine a_iconst C dX12_parsesCommand_10 (v := 1) (by decide) ?_
  refine a_iadd C dX12_parsesCommand_11 ?_
  refine a_top (y := (nI (pp + 1))) (nI_1 pp) ?_
  refine a_putI C (k := 175) iX12 tyX12_ok nmX12 x_k175 rfl (j := 13) rfl (by decide) (by decide +kernel) rfl (ty := .int) (by decide +kernel) rfl rfl dX12_parsesCommand_12 ?_
  refine a_toD (d2 := ms_d d (pp + 1, false)) ms_d_p ?_
  refine a_aload_n C dX12_parsesCommand_15 1 rfl ?_
  refine a_getR C (k := 175) iX12 x_k175 rfl (j := 15) rfl (by decide) (by decide +kernel) dX12_parsesCommand_16 ?_
  refine a_iload_n C dX12_parsesCommand_19 2 rfl ?_
  refine a_iload_n C dX12_parsesCommand_20 0 rfl ?_
  refine a_iastN C (k := 182) x_k182 (i := k9) rfl (by omega) (by first | decide | omega) dX12_parsesCommand_21 ?_
  refine a_iload_n C dX12_parsesCommand_22 0 rfl ?_
  refine a_tableIn C dX12_parsesCommand_23 (by decide +kernel) (by decide +kernel) (off := 332) (by decide +kernel) (tgt := 355) (by decide) ?_
  refine a_aload_n C dX12_parsesCommand_355 1 rfl ?_
  refine a_bipush C dX12_parsesCommand_356 (v := 97) (by decide) ?_
  refine a_callV C (k := 175) (As := [.int 97]) (rest := []) (c_M_needs l G (x_p (ms_d d (pp + 1, false)) 182 k9 (nI 112)) tx L hL (by rw [x_p_ne (by omega), ms_d_row (by omega) (by omega)]; exact hln) (fun j hj => by rw [x_p_ne (by omega), ms_d_out (by omega)]; exact htx j hj) ht7 (pp + 1, false) (by rw [x_p_ne (by omega), ms_d_13]) (by rw [x_p_ne (by omega), ms_d_14]) hp1 97 (by omega)) (cwV 1 C.1.2.2.2.2 gX12_parsesCommand_X12_needs rfl rfl rfl (by decide +kernel) ⟨Nat.le_of_ble_eq_true rfl, Nat.le_of_ble_eq_true rfl⟩) x_k175 (q := (RX12, TX12, 16)) rfl rfl rfl rfl (Nat.le_of_ble_eq_true rfl) dX12_parsesCommand_358 ⟨Nat.le_of_ble_eq_true rfl, Nat.le_of_ble_eq_true rfl⟩ ?_
  refine a_toD (d2 := x_p (ms_d d (ms_nd tx L (pp + 1, false) 97)) 182 k9 (nI 112)) (by rw [ms_d_w (by omega), ms_d_ms]) ?_
  refine a_aload_n C dX12_parsesCommand_361 1 rfl ?_
  refine a_bipush C dX12_parsesCommand_362 (v := 121) (by decide) ?_
  refine a_callV C (k := 175) (As := [.int 121]) (rest := []) (c_M_needs l G (x_p (ms_d d (ms_nd tx L (pp + 1, false) 97)) 182 k9 (nI 112)) tx L hL (by rw [x_p_ne (by omega), ms_d_row (by omega) (by omega)]; exact hln) (fun j hj => by rw [x_p_ne (by omega), ms_d_out (by omega)]; exact htx j hj) ht7 (ms_nd tx L (pp + 1, false) 97) (by rw [x_p_ne (by omega), ms_d_13]) (by rw [x_p_ne (by omega), ms_d_14]) (ms_nd_le hp1) 121 (by omega)) (cwV 1 C.1.2.2.2.2 gX12_parsesCommand_X12_needs rfl rfl rfl (by decide +kernel) ⟨Nat.le_of_ble_eq_true rfl, Nat.le_of_ble_eq_true rfl⟩) x_k175 (q := (RX12, TX12, 16)) rfl rfl rfl rfl (Nat.le_of_ble_eq_true rfl) dX12_parsesCommand_364 ⟨Nat.le_of_ble_eq_true rfl, Nat.le_of_ble_eq_true rfl⟩ ?_
  refine a_toD (d2 := x_p (ms_d d (ms_nd tx L (ms_nd tx L (pp + 1, false) 97) 121)) 182 k9 (nI 112)) (by rw [ms_d_w (by omega), ms_d_ms]) ?_
  refine a_goto C dX12_parsesCommand_367 (tgt := 385) (by decide) ?_
  exact a_vret C hlocks hr dX12_parsesCommand_385 rfl

set_option maxHeartbeats 1000000 in
set_option maxRecDepth 100000 in
theorem c_M_parsesCommand_12 (l : Launch) (G : xG) (d : xd) (tx : Nat → Nat) (L : Nat) (hL : L ≤ 60) (hln : d 175 7 = nI L) (htx : ∀ j, j < L → d 180 j = nI (tx j)) (ht7 : ∀ j, j < L → tx j < 128) (pp : Nat) (hpL : pp ≤ L) (k9 : Nat) (hk9 : k9 < 177) (hc : tp_c tx L (pp + 1) 117 = true) (h0 : tp_c tx L pp 98 = true) : x_M G l yX12_parsesCommand wsX12_parsesCommand 5 0 0 [.ref (x_b G + 175), .int (nI k9)] (ms_d d (pp, false)) none (x_p (x_p (x_p (x_p (ms_d d (ms_fs tx L (ms_fs tx L (ms_nd tx L (ms_nd tx L ((pp + 1, false)) 117) 121) 1) 3)) 182 k9 (nI 98)) 182 k9 117) 182 (k9 + 1) (nI (ms_fv tx L (ms_nd tx L (ms_nd tx L ((pp + 1, false)) 117) 121) 1))) 182 (k9 + 2) (nI (ms_fv tx L (ms_fs tx L (ms_nd tx L (ms_nd tx L ((pp + 1, false)) 117) 121) 1) 3))) := by
  have iX12 : ∀ w ∈ u_ws RX12 TX12 16, w ∈ wsX12_parsesCommand := by decide +kernel
  refine x_start (cc := cX12_parsesCommand) (maxL := 3) (ret := none) (own := RX12) (by decide) rfl rfl (Nat.le_of_ble_eq_true rfl) (lst := [(0, .ref (x_b G + 175)), (1, .int (nI k9))]) rfl ?_
  intro p e s m args below meth c C hr hlocks
  have hp1 := tp_c_lt h0
  refine a_aload_n C dX12_parsesCommand_0 0 rfl ?_
  refine a_callV C (k := 175) (As := []) (rest := []) (c_M_here l G (ms_d d (pp, false)) tx L hL (by rw [ms_d_row (by omega) (by omega)]; exact hln) (fun j hj => by rw [ms_d_out (by omega)]; exact htx j hj) ht7 (pp, false).1 (by rw [ms_d_13]) (by have := hpL; omega)) (cwV 0 C.1.2.2.2.2 gX12_parsesCommand_X12_here rfl rfl rfl (by decide +kernel) ⟨Nat.le_of_ble_eq_true rfl, Nat.le_of_ble_eq_true rfl⟩) x_k175 (q := (RX12, TX12, 16)) rfl rfl rfl rfl (Nat.le_of_ble_eq_true rfl) dX12_parsesCommand_1 ⟨Nat.le_of_ble_eq_true rfl, Nat.le_of_ble_eq_true rfl⟩ ?_
  refine a_top (y := (nI 98)) ((tp_h_c ht7 (by omega)).mpr h0) ?_
  refine a_istore_n C dX12_parsesCommand_4 (by decide) (lst2 := [(2, .int (nI 98)), (0, .ref (x_b G + 175)), (1, .int (nI k9))]) rfl ?_
  refine a_aload_n C dX12_parsesCommand_5 1 rfl ?_
  refine a_dup C dX12_parsesCommand_6 rfl ?_
  refine a_getI C (k := 175) iX12 x_k175 rfl (j := 13) rfl (by decide) (by decide +kernel) dX12_parsesCommand_7 ?_
  refine a_top (y := (nI pp)) ms_d_13 ?_
  refine a_iconst C dX12_parsesCommand_10 (v := 1) (by decide) ?_
  refine a_iadd C dX12_parsesCommand_11 ?_
  refine a_top (y := (nI (pp + 1))) (nI_1 pp) ?_
  refine a_putI C (k := 175) iX12 tyX12_ok nmX12 x_k175 rfl (j := 13) rfl (by decide) (by decide +kernel) rfl (ty := .int) (by decide +kernel) rfl rfl dX12_parsesCommand_12 ?_
  refine a_toD (d2 := ms_d d (pp + 1, false)) ms_d_p ?_
  refine a_aload_n C dX12_parsesCommand_15 1 rfl ?_
  refine a_getR C (k := 175) iX12 x_k175 rfl (j := 15) rfl (by decide) (by decide +kernel) dX12_parsesCommand_16 ?_
  refine a_iload_n C dX12_parsesCommand_19 2 rfl ?_
  refine a_iload_n C dX12_parsesCommand_20 0 rfl ?_
  refine a_iastN C (k := 182) x_k182 (i := k9) rfl (by omega) (by first | decide | omega) dX12_parsesCommand_21 ?_
  refine a_iload_n C dX12_parsesCommand_22 0 rfl ?_
  refine a_tableIn C dX12_parsesCommand_23 (by decide +kernel) (by decide +kernel) (off := 251) (by decide +kernel) (tgt := 274) (by decide) ?_
  refine a_aload_n C dX12_parsesCommand_274 1 rfl ?_
  refine a_iload_n C dX12_parsesCommand_275 2 rfl ?_
  refine a_toD (d2 := ms_d (x_p d 182 k9 (nI 98)) (pp + 1, false)) (ms_d_w (by omega)).symm ?_
  refine a_callV C (k := 175) (As := [.int (nI k9)]) (rest := []) (c_M_parsesB_12 l G (x_p d 182 k9 (nI 98)) tx L hL (by rw [x_p_ne (by omega)]; exact hln) (fun j hj => by rw [x_p_ne (by omega)]; exact htx j hj) ht7 (pp + 1, false) hp1 k9 hk9 hc) (cwV 1 C.1.2.2.2.2 gX12_parsesCommand_X12_parsesB rfl rfl rfl (by decide +kernel) ⟨Nat.le_of_ble_eq_true rfl, Nat.le_of_ble_eq_true rfl⟩) x_k175 (q := (RX12, TX12, 16)) rfl rfl rfl rfl (Nat.le_of_ble_eq_true rfl) dX12_parsesCommand_276 ⟨Nat.le_of_ble_eq_true rfl, Nat.le_of_ble_eq_true rfl⟩ ?_
  refine a_toD (d2 := x_p (x_p (x_p (x_p (ms_d d (ms_fs tx L (ms_fs tx L (ms_nd tx L (ms_nd tx L ((pp + 1, false)) 117) 121) 1) 3)) 182 k9 (nI 98)) 182 k9 117) 182 (k9 + 1) (nI (ms_fv tx L (ms_nd tx L (ms_nd tx L ((pp + 1, false)) 117) 121) 1))) 182 (k9 + 2) (nI (ms_fv tx L (ms_fs tx L (ms_nd tx L (ms_nd tx L ((pp + 1, false)) 117) 121) 1) 3))) (by rw [ms_d_w (by omega)]) ?_
  refine a_goto C dX12_parsesCommand_279 (tgt := 385) (by decide) ?_
  exact a_vret C hlocks hr dX12_parsesCommand_385 rfl

theorem x_Psub (pp : Nat) : nI (pp + 1) - 1 = nI pp := nI_pred pp
set_option maxHeartbeats 1000000 in
set_option maxRecDepth 100000 in
theorem c_M_parsesCommand_out (l : Launch) (G : xG) (d : xd) (tx : Nat → Nat) (L : Nat) (hL : L ≤ 60) (hln : d 175 7 = nI L) (htx : ∀ j, j < L → d 180 j = nI (tx j)) (ht7 : ∀ j, j < L → tx j < 128) (pp : Nat) (hpL : pp ≤ L) (k9 : Nat) (hk9 : k9 < 177) (hx : (tp_h tx L pp).toInt < 98 ∨ 119 < (tp_h tx L pp).toInt) : x_M G l yX12_parsesCommand wsX12_parsesCommand 5 0 0 [.ref (x_b G + 175), .int (nI k9)] (ms_d d (pp, false)) none (x_p (ms_d d (pp, true)) 182 k9 (tp_h tx L pp)) := by
  have iX12 : ∀ w ∈ u_ws RX12 TX12 16, w ∈ wsX12_parsesCommand := by decide +kernel
  refine x_start (cc := cX12_parsesCommand) (maxL := 3) (ret := none) (own := RX12) (by decide) rfl rfl (Nat.le_of_ble_eq_true rfl) (lst := [(0, .ref (x_b G + 175)), (1, .int (nI k9))]) rfl ?_
  intro p e s m args below meth c C hr hlocks
  refine a_aload_n C dX12_parsesCommand_0 0 rfl ?_
  refine a_callV C (k := 175) (As := []) (rest := []) (c_M_here l G (ms_d d (pp, false)) tx L hL (by rw [ms_d_row (by omega) (by omega)]; exact hln) (fun j hj => by rw [ms_d_out (by omega)]; exact htx j hj) ht7 (pp, false).1 (by rw [ms_d_13]) (by have := hpL; omega)) (cwV 0 C.1.2.2.2.2 gX12_parsesCommand_X12_here rfl rfl rfl (by decide +kernel) ⟨Nat.le_of_ble_eq_true rfl, Nat.le_of_ble_eq_true rfl⟩) x_k175 (q := (RX12, TX12, 16)) rfl rfl rfl rfl (Nat.le_of_ble_eq_true rfl) dX12_parsesCommand_1 ⟨Nat.le_of_ble_eq_true rfl, Nat.le_of_ble_eq_true rfl⟩ ?_
  refine a_top (y := (tp_h tx L pp)) rfl ?_
  refine a_istore_n C dX12_parsesCommand_4 (by decide) (lst2 := [(2, .int (tp_h tx L pp)), (0, .ref (x_b G + 175)), (1, .int (nI k9))]) rfl ?_
  refine a_aload_n C dX12_parsesCommand_5 1 rfl ?_
  refine a_dup C dX12_parsesCommand_6 rfl ?_
  refine a_getI C (k := 175) iX12 x_k175 rfl (j := 13) rfl (by decide) (by decide +kernel) dX12_parsesCommand_7 ?_
  refine a_top (y := (nI pp)) ms_d_13 ?_
  refine a_iconst C dX12_parsesCommand_10 (v := 1) (by decide) ?_
  refine a_iadd C dX12_parsesCommand_11 ?_
  refine a_top (y := (nI (pp + 1))) (nI_1 pp) ?_
  refine a_putI C (k := 175) iX12 tyX12_ok nmX12 x_k175 rfl (j := 13) rfl (by decide) (by decide +kernel) rfl (ty := .int) (by decide +kernel) rfl rfl dX12_parsesCommand_12 ?_
  refine a_toD (d2 := ms_d d (pp + 1, false)) ms_d_p ?_
  refine a_aload_n C dX12_parsesCommand_15 1 rfl ?_
  refine a_getR C (k := 175) iX12 x_k175 rfl (j := 15) rfl (by decide) (by decide +kernel) dX12_parsesCommand_16 ?_
  refine a_iload_n C dX12_parsesCommand_19 2 rfl ?_
  refine a_iload_n C dX12_parsesCommand_20 0 rfl ?_
  refine a_iastN C (k := 182) x_k182 (i := k9) rfl (by omega) (by first | decide | omega) dX12_parsesCommand_21 ?_
  refine a_iload_n C dX12_parsesCommand_22 0 rfl ?_
  refine a_tableOut C dX12_parsesCommand_23 hx (tgt := 370) (by decide) ?_
  refine a_aload_n C dX12_parsesCommand_370 1 rfl ?_
  refine a_iconst C dX12_parsesCommand_371 (v := 1) (by decide) ?_
  refine a_putI C (k := 175) iX12 tyX12_ok nmX12 x_k175 rfl (j := 14) rfl (by decide) (by decide +kernel) rfl (ty := .boolean) (by decide +kernel) rfl rfl dX12_parsesCommand_372 ?_
  refine a_toD (d2 := x_p (ms_d d (pp + 1, true)) 182 k9 (tp_h tx L pp)) (by rw [x_p_comm (k := 182) (k2 := 175) (by omega)]; exact congrArg (fun z => x_p z 182 k9 _) (ms_d_q (b := true))) ?_
  refine a_aload_n C dX12_parsesCommand_375 1 rfl ?_
  refine a_dup C dX12_parsesCommand_376 rfl ?_
  refine a_getI C (k := 175) iX12 x_k175 rfl (j := 13) rfl (by decide) (by decide +kernel) dX12_parsesCommand_377 ?_
  refine a_top (y := ((ms_d d (pp + 1, true)) 175 13)) (by first | rw [x_p_ne (by omega)] | rfl) ?_
  refine a_top (y := (nI (pp + 1))) ms_d_13 ?_
  refine a_iconst C dX12_parsesCommand_380 (v := 1) (by decide) ?_
  refine a_isub C dX12_parsesCommand_381 ?_
  refine a_top (y := (nI pp)) (x_Psub pp) ?_
  refine a_putI C (k := 175) iX12 tyX12_ok nmX12 x_k175 rfl (j := 13) rfl (by decide) (by decide +kernel) rfl (ty := .int) (by decide +kernel) rfl rfl dX12_parsesCommand_382 ?_
  refine a_toD (d2 := x_p (ms_d d (pp, true)) 182 k9 (tp_h tx L pp)) (by rw [x_p_comm (k := 182) (k2 := 175) (by omega)]; exact congrArg (fun z => x_p z 182 k9 _) ms_d_p) ?_
  exact a_vret C hlocks hr dX12_parsesCommand_385 rfl

set_option maxHeartbeats 1000000 in
set_option maxRecDepth 100000 in
theorem c_M_parsesCommand_x100 (l : Launch) (G : xG) (d : xd) (tx : Nat → Nat) (L : Nat) (hL : L ≤ 60) (hln : d 175 7 = nI L) (htx : ∀ j, j < L → d 180 j = nI (tx j)) (ht7 : ∀ j, j < L → tx j < 128) (pp : Nat) (hpL : pp ≤ L) (k9 : Nat) (hk9 : k9 < 177) (hx : tp_h tx L pp = nI 100) : x_M G l yX12_parsesCommand wsX12_parsesCommand 5 0 0 [.ref (x_b G + 175), .int (nI k9)] (ms_d d (pp, false)) none (x_p (ms_d d (pp, true)) 182 k9 (nI 100)) := by
  have iX12 : ∀ w ∈ u_ws RX12 TX12 16, w ∈ wsX12_parsesCommand := by decide +kernel
  refine x_start (cc := cX12_parsesCommand) (maxL := 3) (ret := none) (own := RX12) (by decide) rfl rfl (Nat.le_of_ble_eq_true rfl) (lst := [(0, .ref (x_b G + 175)), (1, .int (nI k9))]) rfl ?_
  intro p e s m args below meth c C hr hlocks
  refine a_aload_n C dX12_parsesCommand_0 0 rfl ?_
  refine a_callV C (k := 175) (As := []) (rest := []) (c_M_here l G (ms_d d (pp, false)) tx L hL (by rw [ms_d_row (by omega) (by omega)]; exact hln) (fun j hj => by rw [ms_d_out (by omega)]; exact htx j hj) ht7 (pp, false).1 (by rw [ms_d_13]) (by have := hpL; omega)) (cwV 0 C.1.2.2.2.2 gX12_parsesCommand_X12_here rfl rfl rfl (by decide +kernel) ⟨Nat.le_of_ble_eq_true rfl, Nat.le_of_ble_eq_true rfl⟩) x_k175 (q := (RX12, TX12, 16)) rfl rfl rfl rfl (Nat.le_of_ble_eq_true rfl) dX12_parsesCommand_1 ⟨Nat.le_of_ble_eq_true rfl, Nat.le_of_ble_eq_true rfl⟩ ?_
  refine a_top (y := (nI 100)) (hx) ?_
  refine a_istore_n C dX12_parsesCommand_4 (by decide) (lst2 := [(2, .int (nI 100)), (0, .ref (x_b G + 175)), (1, .int (nI k9))]) rfl ?_
  refine a_aload_n C dX12_parsesCommand_5 1 rfl ?_
  refine a_dup C dX12_parsesCommand_6 rfl ?_
  refine a_getI C (k := 175) iX12 x_k175 rfl (j := 13) rfl (by decide) (by decide +kernel) dX12_parsesCommand_7 ?_
  refine a_top (y := (nI pp)) ms_d_13 ?_
  refine a_iconst C dX12_parsesCommand_10 (v := 1) (by decide) ?_
  refine a_iadd C dX12_parsesCommand_11 ?_
  refine a_top (y := (nI (pp + 1))) (nI_1 pp) ?_
  refine a_putI C (k := 175) iX12 tyX12_ok nmX12 x_k175 rfl (j := 13) rfl (by decide) (by decide +kernel) rfl (ty := .int) (by decide +kernel) rfl rfl dX12_parsesCommand_12 ?_
  refine a_toD (d2 := ms_d d (pp + 1, false)) ms_d_p ?_
  refine a_aload_n C dX12_parsesCommand_15 1 rfl ?_
  refine a_getR C (k := 175) iX12 x_k175 rfl (j := 15) rfl (by decide) (by decide +kernel) dX12_parsesCommand_16 ?_
  refine a_iload_n C dX12_parsesCommand_19 2 rfl ?_
  refine a_iload_n C dX12_parsesCommand_20 0 rfl ?_
  refine a_iastN C (k := 182) x_k182 (i := k9) rfl (by omega) (by first | decide | omega) dX12_parsesCommand_21 ?_
  refine a_iload_n C dX12_parsesCommand_22 0 rfl ?_
  refine a_tableIn C dX12_parsesCommand_23 (by decide +kernel) (by decide +kernel) (off := 347) (by decide +kernel) (tgt := 370) (by decide) ?_
  refine a_aload_n C dX12_parsesCommand_370 1 rfl ?_
  refine a_iconst C dX12_parsesCommand_371 (v := 1) (by decide) ?_
  refine a_putI C (k := 175) iX12 tyX12_ok nmX12 x_k175 rfl (j := 14) rfl (by decide) (by decide +kernel) rfl (ty := .boolean) (by decide +kernel) rfl rfl dX12_parsesCommand_372 ?_
  refine a_toD (d2 := x_p (ms_d d (pp + 1, true)) 182 k9 (nI 100)) (by rw [x_p_comm (k := 182) (k2 := 175) (by omega)]; exact congrArg (fun z => x_p z 182 k9 _) (ms_d_q (b := true))) ?_
  refine a_aload_n C dX12_parsesCommand_375 1 rfl ?_
  refine a_dup C dX12_parsesCommand_376 rfl ?_
  refine a_getI C (k := 175) iX12 x_k175 rfl (j := 13) rfl (by decide) (by decide +kernel) dX12_parsesCommand_377 ?_
  refine a_top (y := ((ms_d d (pp + 1, true)) 175 13)) (by first | rw [x_p_ne (by omega)] | rfl) ?_
  refine a_top (y := (nI (pp + 1))) ms_d_13 ?_
  refine a_iconst C dX12_parsesCommand_380 (v := 1) (by decide) ?_
  refine a_isub C dX12_parsesCommand_381 ?_
  refine a_top (y := (nI pp)) (x_Psub pp) ?_
  refine a_putI C (k := 175) iX12 tyX12_ok nmX12 x_k175 rfl (j := 13) rfl (by decide) (by decide +kernel) rfl (ty := .int) (by decide +kernel) rfl rfl dX12_parsesCommand_382 ?_
  refine a_toD (d2 := x_p (ms_d d (pp, true)) 182 k9 (nI 100)) (by rw [x_p_comm (k := 182) (k2 := 175) (by omega)]; exact congrArg (fun z => x_p z 182 k9 _) ms_d_p) ?_
  exact a_vret C hlocks hr dX12_parsesCommand_385 rfl

set_option maxHeartbeats 1000000 in
set_option maxRecDepth 100000 in
theorem c_M_parsesCommand_x101 (l : Launch) (G : xG) (d : xd) (tx : Nat → Nat) (L : Nat) (hL : L ≤ 60) (hln : d 175 7 = nI L) (htx : ∀ j, j < L → d 180 j = nI (tx j)) (ht7 : ∀ j, j < L → tx j < 128) (pp : Nat) (hpL : pp ≤ L) (k9 : Nat) (hk9 : k9 < 177) (hx : tp_h tx L pp = nI 101) : x_M G l yX12_parsesCommand wsX12_parsesCommand 5 0 0 [.ref (x_b G + 175), .int (nI k9)] (ms_d d (pp, false)) none (x_p (ms_d d (pp, true)) 182 k9 (nI 101)) := by
  have iX12 : ∀ w ∈ u_ws RX12 TX12 16, w ∈ wsX12_parsesCommand := by decide +kernel
  refine x_start (cc := cX12_parsesCommand) (maxL := 3) (ret := none) (own := RX12) (by decide) rfl rfl (Nat.le_of_ble_eq_true rfl) (lst := [(0, .ref (x_b G + 175)), (1, .int (nI k9))]) rfl ?_
  intro p e s m args below meth c C hr hlocks
  refine a_aload_n C dX12_parsesCommand_0 0 rfl ?_
  refine a_callV C (k := 175) (As := []) (rest := []) (c_M_here l G (ms_d d (pp, false)) tx L hL (by rw [ms_d_row (by omega) (by omega)]; exact hln) (fun j hj => by rw [ms_d_out (by omega)]; exact htx j hj) ht7 (pp, false).1 (by rw [ms_d_13]) (by have := hpL; omega)) (cwV 0 C.1.2.2.2.2 gX12_parsesCommand_X12_here rfl rfl rfl (by decide +kernel) ⟨Nat.le_of_ble_eq_true rfl, Nat.le_of_ble_eq_true rfl⟩) x_k175 (q := (RX12, TX12, 16)) rfl rfl rfl rfl (Nat.le_of_ble_eq_true rfl) dX12_parsesCommand_1 ⟨Nat.le_of_ble_eq_true rfl, Nat.le_of_ble_eq_true rfl⟩ ?_
  refine a_top (y := (nI 101)) (hx) ?_
  refine a_istore_n C dX12_parsesCommand_4 (by decide) (lst2 := [(2, .int (nI 101)), (0, .ref (x_b G + 175)), (1, .int (nI k9))]) rfl ?_
  refine a_aload_n C dX12_parsesCommand_5 1 rfl ?_
  refine a_dup C dX12_parsesCommand_6 rfl ?_
  refine a_getI C (k := 175) iX12 x_k175 rfl (j := 13) rfl (by decide) (by decide +kernel) dX12_parsesCommand_7 ?_
  refine a_top (y := (nI pp)) ms_d_13 ?_
  refine a_iconst C dX12_parsesCommand_10 (v := 1) (by decide) ?_
  refine a_iadd C dX12_parsesCommand_11 ?_
  refine a_top (y := (nI (pp + 1))) (nI_1 pp) ?_
  refine a_putI C (k := 175) iX12 tyX12_ok nmX12 x_k175 rfl (j := 13) rfl (by decide) (by decide +kernel) rfl (ty := .int) (by decide +kernel) rfl rfl dX12_parsesCommand_12 ?_
  refine a_toD (d2 := ms_d d (pp + 1, false)) ms_d_p ?_
  refine a_aload_n C dX12_parsesCommand_15 1 rfl ?_
  refine a_getR C (k := 175) iX12 x_k175 rfl (j := 15) rfl (by decide) (by decide +kernel) dX12_parsesCommand_16 ?_
  refine a_iload_n C dX12_parsesCommand_19 2 rfl ?_
  refine a_iload_n C dX12_parsesCommand_20 0 rfl ?_
  refine a_iastN C (k := 182) x_k182 (i := k9) rfl (by omega) (by first | decide | omega) dX12_parsesCommand_21 ?_
  refine a_iload_n C dX12_parsesCommand_22 0 rfl ?_
  refine a_tableIn C dX12_parsesCommand_23 (by decide +kernel) (by decide +kernel) (off := 347) (by decide +kernel) (tgt := 370) (by decide) ?_
  refine a_aload_n C dX12_parsesCommand_370 1 rfl ?_
  refine a_iconst C dX12_parsesCommand_371 (v := 1) (by decide) ?_
  refine a_putI C (k := 175) iX12 tyX12_ok nmX12 x_k175 rfl (j := 14) rfl (by decide) (by decide +kernel) rfl (ty := .boolean) (by decide +kernel) rfl rfl dX12_parsesCommand_372 ?_
  refine a_toD (d2 := x_p (ms_d d (pp + 1, true)) 182 k9 (nI 101)) (by rw [x_p_comm (k := 182) (k2 := 175) (by omega)]; exact congrArg (fun z => x_p z 182 k9 _) (ms_d_q (b := true))) ?_
  refine a_aload_n C dX12_parsesCommand_375 1 rfl ?_
  refine a_dup C dX12_parsesCommand_376 rfl ?_
  refine a_getI C (k := 175) iX12 x_k175 rfl (j := 13) rfl (by decide) (by decide +kernel) dX12_parsesCommand_377 ?_
  refine a_top (y := ((ms_d d (pp + 1, true)) 175 13)) (by first | rw [x_p_ne (by omega)] | rfl) ?_
  refine a_top (y := (nI (pp + 1))) ms_d_13 ?_
  refine a_iconst C dX12_parsesCommand_380 (v := 1) (by decide) ?_
  refine a_isub C dX12_parsesCommand_381 ?_
  refine a_top (y := (nI pp)) (x_Psub pp) ?_
  refine a_putI C (k := 175) iX12 tyX12_ok nmX12 x_k175 rfl (j := 13) rfl (by decide) (by decide +kernel) rfl (ty := .int) (by decide +kernel) rfl rfl dX12_parsesCommand_382 ?_
  refine a_toD (d2 := x_p (ms_d d (pp, true)) 182 k9 (nI 101)) (by rw [x_p_comm (k := 182) (k2 := 175) (by omega)]; exact congrArg (fun z => x_p z 182 k9 _) ms_d_p) ?_
  exact a_vret C hlocks hr dX12_parsesCommand_385 rfl

set_option maxHeartbeats 1000000 in
set_option maxRecDepth 100000 in
theorem c_M_parsesCommand_x102 (l : Launch) (G : xG) (d : xd) (tx : Nat → Nat) (L : Nat) (hL : L ≤ 60) (hln : d 175 7 = nI L) (htx : ∀ j, j < L → d 180 j = nI (tx j)) (ht7 : ∀ j, j < L → tx j < 128) (pp : Nat) (hpL : pp ≤ L) (k9 : Nat) (hk9 : k9 < 177) (hx : tp_h tx L pp = nI 102) : x_M G l yX12_parsesCommand wsX12_parsesCommand 5 0 0 [.ref (x_b G + 175), .int (nI k9)] (ms_d d (pp, false)) none (x_p (ms_d d (pp, true)) 182 k9 (nI 102)) := by
  have iX12 : ∀ w ∈ u_ws RX12 TX12 16, w ∈ wsX12_parsesCommand := by decide +kernel
  refine x_start (cc := cX12_parsesCommand) (maxL := 3) (ret := none) (own := RX12) (by decide) rfl rfl (Nat.le_of_ble_eq_true rfl) (lst := [(0, .ref (x_b G + 175)), (1, .int (nI k9))]) rfl ?_
  intro p e s m args below meth c C hr hlocks
  refine a_aload_n C dX12_parsesCommand_0 0 rfl ?_
  refine a_callV C (k := 175) (As := []) (rest := []) (c_M_here l G (ms_d d (pp, false)) tx L hL (by rw [ms_d_row (by omega) (by omega)]; exact hln) (fun j hj => by rw [ms_d_out (by omega)]; exact htx j hj) ht7 (pp, false).1 (by rw [ms_d_13]) (by have := hpL; omega)) (cwV 0 C.1.2.2.2.2 gX12_parsesCommand_X12_here rfl rfl rfl (by decide +kernel) ⟨Nat.le_of_ble_eq_true rfl, Nat.le_of_ble_eq_true rfl⟩) x_k175 (q := (RX12, TX12, 16)) rfl rfl rfl rfl (Nat.le_of_ble_eq_true rfl) dX12_parsesCommand_1 ⟨Nat.le_of_ble_eq_true rfl, Nat.le_of_ble_eq_true rfl⟩ ?_
  refine a_top (y := (nI 102)) (hx) ?_
  refine a_istore_n C dX12_parsesCommand_4 (by decide) (lst2 := [(2, .int (nI 102)), (0, .ref (x_b G + 175)), (1, .int (nI k9))]) rfl ?_
  refine a_aload_n C dX12_parsesCommand_5 1 rfl ?_
  refine a_dup C dX12_parsesCommand_6 rfl ?_
  refine a_getI C (k := 175) iX12 x_k175 rfl (j := 13) rfl (by decide) (by decide +kernel) dX12_parsesCommand_7 ?_
  refine a_top (y := (nI pp)) ms_d_13 ?_
  refine a_iconst C dX12_parsesCommand_10 (v := 1) (by decide) ?_
  refine a_iadd C dX12_parsesCommand_11 ?_
  refine a_top (y := (nI (pp + 1))) (nI_1 pp) ?_
  refine a_putI C (k := 175) iX12 tyX12_ok nmX12 x_k175 rfl (j := 13) rfl (by decide) (by decide +kernel) rfl (ty := .int) (by decide +kernel) rfl rfl dX12_parsesCommand_12 ?_
  refine a_toD (d2 := ms_d d (pp + 1, false)) ms_d_p ?_
  refine a_aload_n C dX12_parsesCommand_15 1 rfl ?_
  refine a_getR C (k := 175) iX12 x_k175 rfl (j := 15) rfl (by decide) (by decide +kernel) dX12_parsesCommand_16 ?_
  refine a_iload_n C dX12_parsesCommand_19 2 rfl ?_
  refine a_iload_n C dX12_parsesCommand_20 0 rfl ?_
  refine a_iastN C (k := 182) x_k182 (i := k9) rfl (by omega) (by first | decide | omega) dX12_parsesCommand_21 ?_
  refine a_iload_n C dX12_parsesCommand_22 0 rfl ?_
  refine a_tableIn C dX12_parsesCommand_23 (by decide +kernel) (by decide +kernel) (off := 347) (by decide +kernel) (tgt := 370) (by decide) ?_
  refine a_aload_n C dX12_parsesCommand_370 1 rfl ?_
  refine a_iconst C dX12_parsesCommand_371 (v := 1) (by decide) ?_
  refine a_putI C (k := 175) iX12 tyX12_ok nmX12 x_k175 rfl (j := 14) rfl (by decide) (by decide +kernel) rfl (ty := .boolean) (by decide +kernel) rfl rfl dX12_parsesCommand_372 ?_
  refine a_toD (d2 := x_p (ms_d d (pp + 1, true)) 182 k9 (nI 102)) (by rw [x_p_comm (k := 182) (k2 := 175) (by omega)]; exact congrArg (fun z => x_p z 182 k9 _) (ms_d_q (b := true))) ?_
  refine a_aload_n C dX12_parsesCommand_375 1 rfl ?_
  refine a_dup C dX12_parsesCommand_376 rfl ?_
  refine a_getI C (k := 175) iX12 x_k175 rfl (j := 13) rfl (by decide) (by decide +kernel) dX12_parsesCommand_377 ?_
  refine a_top (y := ((ms_d d (pp + 1, true)) 175 13)) (by first | rw [x_p_ne (by omega)] | rfl) ?_
  refine a_top (y := (nI (pp + 1))) ms_d_13 ?_
  refine a_iconst C dX12_parsesCommand_380 (v := 1) (by decide) ?_
  refine a_isub C dX12_parsesCommand_381 ?_
  refine a_top (y := (nI pp)) (x_Psub pp) ?_
  refine a_putI C (k := 175) iX12 tyX12_ok nmX12 x_k175 rfl (j := 13) rfl (by decide) (by decide +kernel) rfl (ty := .int) (by decide +kernel) rfl rfl dX12_parsesCommand_382 ?_
  refine a_toD (d2 := x_p (ms_d d (pp, true)) 182 k9 (nI 102)) (by rw [x_p_comm (k := 182) (k2 := 175) (by omega)]; exact congrArg (fun z => x_p z 182 k9 _) ms_d_p) ?_
  exact a_vret C hlocks hr dX12_parsesCommand_385 rfl

set_option maxHeartbeats 1000000 in
set_option maxRecDepth 100000 in
theorem c_M_parsesCommand_x104 (l : Launch) (G : xG) (d : xd) (tx : Nat → Nat) (L : Nat) (hL : L ≤ 60) (hln : d 175 7 = nI L) (htx : ∀ j, j < L → d 180 j = nI (tx j)) (ht7 : ∀ j, j < L → tx j < 128) (pp : Nat) (hpL : pp ≤ L) (k9 : Nat) (hk9 : k9 < 177) (hx : tp_h tx L pp = nI 104) : x_M G l yX12_parsesCommand wsX12_parsesCommand 5 0 0 [.ref (x_b G + 175), .int (nI k9)] (ms_d d (pp, false)) none (x_p (ms_d d (pp, true)) 182 k9 (nI 104)) := by
  have iX12 : ∀ w ∈ u_ws RX12 TX12 16, w ∈ wsX12_parsesCommand := by decide +kernel
  refine x_start (cc := cX12_parsesCommand) (maxL := 3) (ret := none) (own := RX12) (by decide) rfl rfl (Nat.le_of_ble_eq_true rfl) (lst := [(0, .ref (x_b G + 175)), (1, .int (nI k9))]) rfl ?_
  intro p e s m args below meth c C hr hlocks
  refine a_aload_n C dX12_parsesCommand_0 0 rfl ?_
  refine a_callV C (k := 175) (As := []) (rest := []) (c_M_here l G (ms_d d (pp, false)) tx L hL (by rw [ms_d_row (by omega) (by omega)]; exact hln) (fun j hj => by rw [ms_d_out (by omega)]; exact htx j hj) ht7 (pp, false).1 (by rw [ms_d_13]) (by have := hpL; omega)) (cwV 0 C.1.2.2.2.2 gX12_parsesCommand_X12_here rfl rfl rfl (by decide +kernel) ⟨Nat.le_of_ble_eq_true rfl, Nat.le_of_ble_eq_true rfl⟩) x_k175 (q := (RX12, TX12, 16)) rfl rfl rfl rfl (Nat.le_of_ble_eq_true rfl) dX12_parsesCommand_1 ⟨Nat.le_of_ble_eq_true rfl, Nat.le_of_ble_eq_true rfl⟩ ?_
  refine a_top (y := (nI 104)) (hx) ?_
  refine a_istore_n C dX12_parsesCommand_4 (by decide) (lst2 := [(2, .int (nI 104)), (0, .ref (x_b G + 175)), (1, .int (nI k9))]) rfl ?_
  refine a_aload_n C dX12_parsesCommand_5 1 rfl ?_
  refine a_dup C dX12_parsesCommand_6 rfl ?_
  refine a_getI C (k := 175) iX12 x_k175 rfl (j := 13) rfl (by decide) (by decide +kernel) dX12_parsesCommand_7 ?_
  refine a_top (y := (nI pp)) ms_d_13 ?_
  refine a_iconst C dX12_parsesCommand_10 (v := 1) (by decide) ?_
  refine a_iadd C dX12_parsesCommand_11 ?_
  refine a_top (y := (nI (pp + 1))) (nI_1 pp) ?_
  refine a_putI C (k := 175) iX12 tyX12_ok nmX12 x_k175 rfl (j := 13) rfl (by decide) (by decide +kernel) rfl (ty := .int) (by decide +kernel) rfl rfl dX12_parsesCommand_12 ?_
  refine a_toD (d2 := ms_d d (pp + 1, false)) ms_d_p ?_
  refine a_aload_n C dX12_parsesCommand_15 1 rfl ?_
  refine a_getR C (k := 175) iX12 x_k175 rfl (j := 15) rfl (by decide) (by decide +kernel) dX12_parsesCommand_16 ?_
  refine a_iload_n C dX12_parsesCommand_19 2 rfl ?_
  refine a_iload_n C dX12_parsesCommand_20 0 rfl ?_
  refine a_iastN C (k := 182) x_k182 (i := k9) rfl (by omega) (by first | decide | omega) dX12_parsesCommand_21 ?_
  refine a_iload_n C dX12_parsesCommand_22 0 rfl ?_
  refine a_tableIn C dX12_parsesCommand_23 (by decide +kernel) (by decide +kernel) (off := 347) (by decide +kernel) (tgt := 370) (by decide) ?_
  refine a_aload_n C dX12_parsesCommand_370 1 rfl ?_
  refine a_iconst C dX12_parsesCommand_371 (v := 1) (by decide) ?_
  refine a_putI C (k := 175) iX12 tyX12_ok nmX12 x_k175 rfl (j := 14) rfl (by decide) (by decide +kernel) rfl (ty := .boolean) (by decide +kernel) rfl rfl dX12_parsesCommand_372 ?_
  refine a_toD (d2 := x_p (ms_d d (pp + 1, true)) 182 k9 (nI 104)) (by rw [x_p_comm (k := 182) (k2 := 175) (by omega)]; exact congrArg (fun z => x_p z 182 k9 _) (ms_d_q (b := true))) ?_
  refine a_aload_n C dX12_parsesCommand_375 1 rfl ?_
  refine a_dup C dX12_parsesCommand_376 rfl ?_
  refine a_getI C (k := 175) iX12 x_k175 rfl (j := 13) rfl (by decide) (by decide +kernel) dX12_parsesCommand_377 ?_
  refine a_top (y := ((ms_d d (pp + 1, true)) 175 13)) (by first | rw [x_p_ne (by omega)] | rfl) ?_
  refine a_top (y := (nI (pp + 1))) ms_d_13 ?_
  refine a_iconst C dX12_parsesCommand_380 (v := 1) (by decide) ?_
  refine a_isub C dX12_parsesCommand_381 ?_
  refine a_top (y := (nI pp)) (x_Psub pp) ?_
  refine a_putI C (k := 175) iX12 tyX12_ok nmX12 x_k175 rfl (j := 13) rfl (by decide) (by decide +kernel) rfl (ty := .int) (by decide +kernel) rfl rfl dX12_parsesCommand_382 ?_
  refine a_toD (d2 := x_p (ms_d d (pp, true)) 182 k9 (nI 104)) (by rw [x_p_comm (k := 182) (k2 := 175) (by omega)]; exact congrArg (fun z => x_p z 182 k9 _) ms_d_p) ?_
  exact a_vret C hlocks hr dX12_parsesCommand_385 rfl

set_option maxHeartbeats 1000000 in
set_option maxRecDepth 100000 in
theorem c_M_parsesCommand_x105 (l : Launch) (G : xG) (d : xd) (tx : Nat → Nat) (L : Nat) (hL : L ≤ 60) (hln : d 175 7 = nI L) (htx : ∀ j, j < L → d 180 j = nI (tx j)) (ht7 : ∀ j, j < L → tx j < 128) (pp : Nat) (hpL : pp ≤ L) (k9 : Nat) (hk9 : k9 < 177) (hx : tp_h tx L pp = nI 105) : x_M G l yX12_parsesCommand wsX12_parsesCommand 5 0 0 [.ref (x_b G + 175), .int (nI k9)] (ms_d d (pp, false)) none (x_p (ms_d d (pp, true)) 182 k9 (nI 105)) := by
  have iX12 : ∀ w ∈ u_ws RX12 TX12 16, w ∈ wsX12_parsesCommand := by decide +kernel
  refine x_start (cc := cX12_parsesCommand) (maxL := 3) (ret := none) (own := RX12) (by decide) rfl rfl (Nat.le_of_ble_eq_true rfl) (lst := [(0, .ref (x_b G + 175)), (1, .int (nI k9))]) rfl ?_
  intro p e s m args below meth c C hr hlocks
  refine a_aload_n C dX12_parsesCommand_0 0 rfl ?_
  refine a_callV C (k := 175) (As := []) (rest := []) (c_M_here l G (ms_d d (pp, false)) tx L hL (by rw [ms_d_row (by omega) (by omega)]; exact hln) (fun j hj => by rw [ms_d_out (by omega)]; exact htx j hj) ht7 (pp, false).1 (by rw [ms_d_13]) (by have := hpL; omega)) (cwV 0 C.1.2.2.2.2 gX12_parsesCommand_X12_here rfl rfl rfl (by decide +kernel) ⟨Nat.le_of_ble_eq_true rfl, Nat.le_of_ble_eq_true rfl⟩) x_k175 (q := (RX12, TX12, 16)) rfl rfl rfl rfl (Nat.le_of_ble_eq_true rfl) dX12_parsesCommand_1 ⟨Nat.le_of_ble_eq_true rfl, Nat.le_of_ble_eq_true rfl⟩ ?_
  refine a_top (y := (nI 105)) (hx) ?_
  refine a_istore_n C dX12_parsesCommand_4 (by decide) (lst2 := [(2, .int (nI 105)), (0, .ref (x_b G + 175)), (1, .int (nI k9))]) rfl ?_
  refine a_aload_n C dX12_parsesCommand_5 1 rfl ?_
  refine a_dup C dX12_parsesCommand_6 rfl ?_
  refine a_getI C (k := 175) iX12 x_k175 rfl (j := 13) rfl (by decide) (by decide +kernel) dX12_parsesCommand_7 ?_
  refine a_top (y := (nI pp)) ms_d_13 ?_
  refine a_iconst C dX12_parsesCommand_10 (v := 1) (by decide) ?_
  refine a_iadd C dX12_parsesCommand_11 ?_
  refine a_top (y := (nI (pp + 1))) (nI_1 pp) ?_
  refine a_putI C (k := 175) iX12 tyX12_ok nmX12 x_k175 rfl (j := 13) rfl (by decide) (by decide +kernel) rfl (ty := .int) (by decide +kernel) rfl rfl dX12_parsesCommand_12 ?_
  refine a_toD (d2 := ms_d d (pp + 1, false)) ms_d_p ?_
  refine a_aload_n C dX12_parsesCommand_15 1 rfl ?_
  refine a_getR C (k := 175) iX12 x_k175 rfl (j := 15) rfl (by decide) (by decide +kernel) dX12_parsesCommand_16 ?_
  refine a_iload_n C dX12_parsesCommand_19 2 rfl ?_
  refine a_iload_n C dX12_parsesCommand_20 0 rfl ?_
  refine a_iastN C (k := 182) x_k182 (i := k9) rfl (by omega) (by first | decide | omega) dX12_parsesCommand_21 ?_
  refine a_iload_n C dX12_parsesCommand_22 0 rfl ?_
  refine a_tableIn C dX12_parsesCommand_23 (by decide +kernel) (by decide +kernel) (off := 347) (by decide +kernel) (tgt := 370) (by decide) ?_
  refine a_aload_n C dX12_parsesCommand_370 1 rfl ?_
  refine a_iconst C dX12_parsesCommand_371 (v := 1) (by decide) ?_
  refine a_putI C (k := 175) iX12 tyX12_ok nmX12 x_k175 rfl (j := 14) rfl (by decide) (by decide +kernel) rfl (ty := .boolean) (by decide +kernel) rfl rfl dX12_parsesCommand_372 ?_
  refine a_toD (d2 := x_p (ms_d d (pp + 1, true)) 182 k9 (nI 105)) (by rw [x_p_comm (k := 182) (k2 := 175) (by omega)]; exact congrArg (fun z => x_p z 182 k9 _) (ms_d_q (b := true))) ?_
  refine a_aload_n C dX12_parsesCommand_375 1 rfl ?_
  refine a_dup C dX12_parsesCommand_376 rfl ?_
  refine a_getI C (k := 175) iX12 x_k175 rfl (j := 13) rfl (by decide) (by decide +kernel) dX12_parsesCommand_377 ?_
  refine a_top (y := ((ms_d d (pp + 1, true)) 175 13)) (by first | rw [x_p_ne (by omega)] | rfl) ?_
  refine a_top (y := (nI (pp + 1))) ms_d_13 ?_
  refine a_iconst C dX12_parsesCommand_380 (v := 1) (by decide) ?_
  refine a_isub C dX12_parsesCommand_381 ?_
  refine a_top (y := (nI pp)) (x_Psub pp) ?_
  refine a_putI C (k := 175) iX12 tyX12_ok nmX12 x_k175 rfl (j := 13) rfl (by decide) (by decide +kernel) rfl (ty := .int) (by decide +kernel) rfl rfl dX12_parsesCommand_382 ?_
  refine a_toD (d2 := x_p (ms_d d (pp, true)) 182 k9 (nI 105)) (by rw [x_p_comm (k := 182) (k2 := 175) (by omega)]; exact congrArg (fun z => x_p z 182 k9 _) ms_d_p) ?_
  exact a_vret C hlocks hr dX12_parsesCommand_385 rfl

set_option maxHeartbeats 1000000 in
set_option maxRecDepth 100000 in
theorem c_M_parsesCommand_x106 (l : Launch) (G : xG) (d : xd) (tx : Nat → Nat) (L : Nat) (hL : L ≤ 60) (hln : d 175 7 = nI L) (htx : ∀ j, j < L → d 180 j = nI (tx j)) (ht7 : ∀ j, j < L → tx j < 128) (pp : Nat) (hpL : pp ≤ L) (k9 : Nat) (hk9 : k9 < 177) (hx : tp_h tx L pp = nI 106) : x_M G l yX12_parsesCommand wsX12_parsesCommand 5 0 0 [.ref (x_b G + 175), .int (nI k9)] (ms_d d (pp, false)) none (x_p (ms_d d (pp, true)) 182 k9 (nI 106)) := by
  have iX12 : ∀ w ∈ u_ws RX12 TX12 16, w ∈ wsX12_parsesCommand := by decide +kernel
  refine x_start (cc := cX12_parsesCommand) (maxL := 3) (ret := none) (own := RX12) (by decide) rfl rfl (Nat.le_of_ble_eq_true rfl) (lst := [(0, .ref (x_b G + 175)), (1, .int (nI k9))]) rfl ?_
  intro p e s m args below meth c C hr hlocks
  refine a_aload_n C dX12_parsesCommand_0 0 rfl ?_
  refine a_callV C (k := 175) (As := []) (rest := []) (c_M_here l G (ms_d d (pp, false)) tx L hL (by rw [ms_d_row (by omega) (by omega)]; exact hln) (fun j hj => by rw [ms_d_out (by omega)]; exact htx j hj) ht7 (pp, false).1 (by rw [ms_d_13]) (by have := hpL; omega)) (cwV 0 C.1.2.2.2.2 gX12_parsesCommand_X12_here rfl rfl rfl (by decide +kernel) ⟨Nat.le_of_ble_eq_true rfl, Nat.le_of_ble_eq_true rfl⟩) x_k175 (q := (RX12, TX12, 16)) rfl rfl rfl rfl (Nat.le_of_ble_eq_true rfl) dX12_parsesCommand_1 ⟨Nat.le_of_ble_eq_true rfl, Nat.le_of_ble_eq_true rfl⟩ ?_
  refine a_top (y := (nI 106)) (hx) ?_
  refine a_istore_n C dX12_parsesCommand_4 (by decide) (lst2 := [(2, .int (nI 106)), (0, .ref (x_b G + 175)), (1, .int (nI k9))]) rfl ?_
  refine a_aload_n C dX12_parsesCommand_5 1 rfl ?_
  refine a_dup C dX12_parsesCommand_6 rfl ?_
  refine a_getI C (k := 175) iX12 x_k175 rfl (j := 13) rfl (by decide) (by decide +kernel) dX12_parsesCommand_7 ?_
  refine a_top (y := (nI pp)) ms_d_13 ?_
  refine a_iconst C dX12_parsesCommand_10 (v := 1) (by decide) ?_
  refine a_iadd C dX12_parsesCommand_11 ?_
  refine a_top (y := (nI (pp + 1))) (nI_1 pp) ?_
  refine a_putI C (k := 175) iX12 tyX12_ok nmX12 x_k175 rfl (j := 13) rfl (by decide) (by decide +kernel) rfl (ty := .int) (by decide +kernel) rfl rfl dX12_parsesCommand_12 ?_
  refine a_toD (d2 := ms_d d (pp + 1, false)) ms_d_p ?_
  refine a_aload_n C dX12_parsesCommand_15 1 rfl ?_
  refine a_getR C (k := 175) iX12 x_k175 rfl (j := 15) rfl (by decide) (by decide +kernel) dX12_parsesCommand_16 ?_
  refine a_iload_n C dX12_parsesCommand_19 2 rfl ?_
  refine a_iload_n C dX12_parsesCommand_20 0 rfl ?_
  refine a_iastN C (k := 182) x_k182 (i := k9) rfl (by omega) (by first | decide | omega) dX12_parsesCommand_21 ?_
  refine a_iload_n C dX12_parsesCommand_22 0 rfl ?_
  refine a_tableIn C dX12_parsesCommand_23 (by decide +kernel) (by decide +kernel) (off := 347) (by decide +kernel) (tgt := 370) (by decide) ?_
  refine a_aload_n C dX12_parsesCommand_370 1 rfl ?_
  refine a_iconst C dX12_parsesCommand_371 (v := 1) (by decide) ?_
  refine a_putI C (k := 175) iX12 tyX12_ok nmX12 x_k175 rfl (j := 14) rfl (by decide) (by decide +kernel) rfl (ty := .boolean) (by decide +kernel) rfl rfl dX12_parsesCommand_372 ?_
  refine a_toD (d2 := x_p (ms_d d (pp + 1, true)) 182 k9 (nI 106)) (by rw [x_p_comm (k := 182) (k2 := 175) (by omega)]; exact congrArg (fun z => x_p z 182 k9 _) (ms_d_q (b := true))) ?_
  refine a_aload_n C dX12_parsesCommand_375 1 rfl ?_
  refine a_dup C dX12_parsesCommand_376 rfl ?_
  refine a_getI C (k := 175) iX12 x_k175 rfl (j := 13) rfl (by decide) (by decide +kernel) dX12_parsesCommand_377 ?_
  refine a_top (y := ((ms_d d (pp + 1, true)) 175 13)) (by first | rw [x_p_ne (by omega)] | rfl) ?_
  refine a_top (y := (nI (pp + 1))) ms_d_13 ?_
  refine a_iconst C dX12_parsesCommand_380 (v := 1) (by decide) ?_
  refine a_isub C dX12_parsesCommand_381 ?_
  refine a_top (y := (nI pp)) (x_Psub pp) ?_
  refine a_putI C (k := 175) iX12 tyX12_ok nmX12 x_k175 rfl (j := 13) rfl (by decide) (by decide +kernel) rfl (ty := .int) (by decide +kernel) rfl rfl dX12_parsesCommand_382 ?_
  refine a_toD (d2 := x_p (ms_d d (pp, true)) 182 k9 (nI 106)) (by rw [x_p_comm (k := 182) (k2 := 175) (by omega)]; exact congrArg (fun z => x_p z 182 k9 _) ms_d_p) ?_
  exact a_vret C hlocks hr dX12_parsesCommand_385 rfl

set_option maxHeartbeats 1000000 in
set_option maxRecDepth 100000 in
theorem c_M_parsesCommand_x107 (l : Launch) (G : xG) (d : xd) (tx : Nat → Nat) (L : Nat) (hL : L ≤ 60) (hln : d 175 7 = nI L) (htx : ∀ j, j < L → d 180 j = nI (tx j)) (ht7 : ∀ j, j < L → tx j < 128) (pp : Nat) (hpL : pp ≤ L) (k9 : Nat) (hk9 : k9 < 177) (hx : tp_h tx L pp = nI 107) : x_M G l yX12_parsesCommand wsX12_parsesCommand 5 0 0 [.ref (x_b G + 175), .int (nI k9)] (ms_d d (pp, false)) none (x_p (ms_d d (pp, true)) 182 k9 (nI 107)) := by
  have iX12 : ∀ w ∈ u_ws RX12 TX12 16, w ∈ wsX12_parsesCommand := by decide +kernel
  refine x_start (cc := cX12_parsesCommand) (maxL := 3) (ret := none) (own := RX12) (by decide) rfl rfl (Nat.le_of_ble_eq_true rfl) (lst := [(0, .ref (x_b G + 175)), (1, .int (nI k9))]) rfl ?_
  intro p e s m args below meth c C hr hlocks
  refine a_aload_n C dX12_parsesCommand_0 0 rfl ?_
  refine a_callV C (k := 175) (As := []) (rest := []) (c_M_here l G (ms_d d (pp, false)) tx L hL (by rw [ms_d_row (by omega) (by omega)]; exact hln) (fun j hj => by rw [ms_d_out (by omega)]; exact htx j hj) ht7 (pp, false).1 (by rw [ms_d_13]) (by have := hpL; omega)) (cwV 0 C.1.2.2.2.2 gX12_parsesCommand_X12_here rfl rfl rfl (by decide +kernel) ⟨Nat.le_of_ble_eq_true rfl, Nat.le_of_ble_eq_true rfl⟩) x_k175 (q := (RX12, TX12, 16)) rfl rfl rfl rfl (Nat.le_of_ble_eq_true rfl) dX12_parsesCommand_1 ⟨Nat.le_of_ble_eq_true rfl, Nat.le_of_ble_eq_true rfl⟩ ?_
  refine a_top (y := (nI 107)) (hx) ?_
  refine a_istore_n C dX12_parsesCommand_4 (by decide) (lst2 := [(2, .int (nI 107)), (0, .ref (x_b G + 175)), (1, .int (nI k9))]) rfl ?_
  refine a_aload_n C dX12_parsesCommand_5 1 rfl ?_
  refine a_dup C dX12_parsesCommand_6 rfl ?_
  refine a_getI C (k := 175) iX12 x_k175 rfl (j := 13) rfl (by decide) (by decide +kernel) dX12_parsesCommand_7 ?_
  refine a_top (y := (nI pp)) ms_d_13 ?_
  refine a_iconst C dX12_parsesCommand_10 (v := 1) (by decide) ?_
  refine a_iadd C dX12_parsesCommand_11 ?_
  refine a_top (y := (nI (pp + 1))) (nI_1 pp) ?_
  refine a_putI C (k := 175) iX12 tyX12_ok nmX12 x_k175 rfl (j := 13) rfl (by decide) (by decide +kernel) rfl (ty := .int) (by decide +kernel) rfl rfl dX12_parsesCommand_12 ?_
  refine a_toD (d2 := ms_d d (pp + 1, false)) ms_d_p ?_
  refine a_aload_n C dX12_parsesCommand_15 1 rfl ?_
  refine a_getR C (k := 175) iX12 x_k175 rfl (j := 15) rfl (by decide) (by decide +kernel) dX12_parsesCommand_16 ?_
  refine a_iload_n C dX12_parsesCommand_19 2 rfl ?_
  refine a_iload_n C dX12_parsesCommand_20 0 rfl ?_
  refine a_iastN C (k := 182) x_k182 (i := k9) rfl (by omega) (by first | decide | omega) dX12_parsesCommand_21 ?_
  refine a_iload_n C dX12_parsesCommand_22 0 rfl ?_
  refine a_tableIn C dX12_parsesCommand_23 (by decide +kernel) (by decide +kernel) (off := 347) (by decide +kernel) (tgt := 370) (by decide) ?_
  refine a_aload_n C dX12_parsesCommand_370 1 rfl ?_
  refine a_iconst C dX12_parsesCommand_371 (v := 1) (by decide) ?_
  refine a_putI C (k := 175) iX12 tyX12_ok nmX12 x_k175 rfl (j := 14) rfl (by decide) (by decide +kernel) rfl (ty := .boolean) (by decide +kernel) rfl rfl dX12_parsesCommand_372 ?_
  refine a_toD (d2 := x_p (ms_d d (pp + 1, true)) 182 k9 (nI 107)) (by rw [x_p_comm (k := 182) (k2 := 175) (by omega)]; exact congrArg (fun z => x_p z 182 k9 _) (ms_d_q (b := true))) ?_
  refine a_aload_n C dX12_parsesCommand_375 1 rfl ?_
  refine a_dup C dX12_parsesCommand_376 rfl ?_
  refine a_getI C (k := 175) iX12 x_k175 rfl (j := 13) rfl (by decide) (by decide +kernel) dX12_parsesCommand_377 ?_
  refine a_top (y := ((ms_d d (pp + 1, true)) 175 13)) (by first | rw [x_p_ne (by omega)] | rfl) ?_
  refine a_top (y := (nI (pp + 1))) ms_d_13 ?_
  refine a_iconst C dX12_parsesCommand_380 (v := 1) (by decide) ?_
  refine a_isub C dX12_parsesCommand_381 ?_
  refine a_top (y := (nI pp)) (x_Psub pp) ?_
  refine a_putI C (k := 175) iX12 tyX12_ok nmX12 x_k175 rfl (j := 13) rfl (by decide) (by decide +kernel) rfl (ty := .int) (by decide +kernel) rfl rfl dX12_parsesCommand_382 ?_
  refine a_toD (d2 := x_p (ms_d d (pp, true)) 182 k9 (nI 107)) (by rw [x_p_comm (k := 182) (k2 := 175) (by omega)]; exact congrArg (fun z => x_p z 182 k9 _) ms_d_p) ?_
  exact a_vret C hlocks hr dX12_parsesCommand_385 rfl

set_option maxHeartbeats 1000000 in
set_option maxRecDepth 100000 in
theorem c_M_parsesCommand_x113 (l : Launch) (G : xG) (d : xd) (tx : Nat → Nat) (L : Nat) (hL : L ≤ 60) (hln : d 175 7 = nI L) (htx : ∀ j, j < L → d 180 j = nI (tx j)) (ht7 : ∀ j, j < L → tx j < 128) (pp : Nat) (hpL : pp ≤ L) (k9 : Nat) (hk9 : k9 < 177) (hx : tp_h tx L pp = nI 113) : x_M G l yX12_parsesCommand wsX12_parsesCommand 5 0 0 [.ref (x_b G + 175), .int (nI k9)] (ms_d d (pp, false)) none (x_p (ms_d d (pp, true)) 182 k9 (nI 113)) := by
  have iX12 : ∀ w ∈ u_ws RX12 TX12 16, w ∈ wsX12_parsesCommand := by decide +kernel
  refine x_start (cc := cX12_parsesCommand) (maxL := 3) (ret := none) (own := RX12) (by decide) rfl rfl (Nat.le_of_ble_eq_true rfl) (lst := [(0, .ref (x_b G + 175)), (1, .int (nI k9))]) rfl ?_
  intro p e s m args below meth c C hr hlocks
  refine a_aload_n C dX12_parsesCommand_0 0 rfl ?_
  refine a_callV C (k := 175) (As := []) (rest := []) (c_M_here l G (ms_d d (pp, false)) tx L hL (by rw [ms_d_row (by omega) (by omega)]; exact hln) (fun j hj => by rw [ms_d_out (by omega)]; exact htx j hj) ht7 (pp, false).1 (by rw [ms_d_13]) (by have := hpL; omega)) (cwV 0 C.1.2.2.2.2 gX12_parsesCommand_X12_here rfl rfl rfl (by decide +kernel) ⟨Nat.le_of_ble_eq_true rfl, Nat.le_of_ble_eq_true rfl⟩) x_k175 (q := (RX12, TX12, 16)) rfl rfl rfl rfl (Nat.le_of_ble_eq_true rfl) dX12_parsesCommand_1 ⟨Nat.le_of_ble_eq_true rfl, Nat.le_of_ble_eq_true rfl⟩ ?_
  refine a_top (y := (nI 113)) (hx) ?_
  refine a_istore_n C dX12_parsesCommand_4 (by decide) (lst2 := [(2, .int (nI 113)), (0, .ref (x_b G + 175)), (1, .int (nI k9))]) rfl ?_
  refine a_aload_n C dX12_parsesCommand_5 1 rfl ?_
  refine a_dup C dX12_parsesCommand_6 rfl ?_
  refine a_getI C (k := 175) iX12 x_k175 rfl (j := 13) rfl (by decide) (by decide +kernel) dX12_parsesCommand_7 ?_
  refine a_top (y := (nI pp)) ms_d_13 ?_
  refine a_iconst C dX12_parsesCommand_10 (v := 1) (by decide) ?_
  refine a_iadd C dX12_parsesCommand_11 ?_
  refine a_top (y := (nI (pp + 1))) (nI_1 pp) ?_
  refine a_putI C (k := 175) iX12 tyX12_ok nmX12 x_k175 rfl (j := 13) rfl (by decide) (by decide +kernel) rfl (ty := .int) (by decide +kernel) rfl rfl dX12_parsesCommand_12 ?_
  refine a_toD (d2 := ms_d d (pp + 1, false)) ms_d_p ?_
  refine a_aload_n C dX12_parsesCommand_15 1 rfl ?_
  refine a_getR C (k := 175) iX12 x_k175 rfl (j := 15) rfl (by decide) (by decide +kernel) dX12_parsesCommand_16 ?_
  refine a_iload_n C dX12_parsesCommand_19 2 rfl ?_
  refine a_iload_n C dX12_parsesCommand_20 0 rfl ?_
  refine a_iastN C (k := 182) x_k182 (i := k9) rfl (by omega) (by first | decide | omega) dX12_parsesCommand_21 ?_
  refine a_iload_n C dX12_parsesCommand_22 0 rfl ?_
  refine a_tableIn C dX12_parsesCommand_23 (by decide +kernel) (by decide +kernel) (off := 347) (by decide +kernel) (tgt := 370) (by decide) ?_
  refine a_aload_n C dX12_parsesCommand_370 1 rfl ?_
  refine a_iconst C dX12_parsesCommand_371 (v := 1) (by decide) ?_
  refine a_putI C (k := 175) iX12 tyX12_ok nmX12 x_k175 rfl (j := 14) rfl (by decide) (by decide +kernel) rfl (ty := .boolean) (by decide +kernel) rfl rfl dX12_parsesCommand_372 ?_
  refine a_toD (d2 := x_p (ms_d d (pp + 1, true)) 182 k9 (nI 113)) (by rw [x_p_comm (k := 182) (k2 := 175) (by omega)]; exact congrArg (fun z => x_p z 182 k9 _) (ms_d_q (b := true))) ?_
  refine a_aload_n C dX12_parsesCommand_375 1 rfl ?_
  refine a_dup C dX12_parsesCommand_376 rfl ?_
  refine a_getI C (k := 175) iX12 x_k175 rfl (j := 13) rfl (by decide) (by decide +kernel) dX12_parsesCommand_377 ?_
  refine a_top (y := ((ms_d d (pp + 1, true)) 175 13)) (by first | rw [x_p_ne (by omega)] | rfl) ?_
  refine a_top (y := (nI (pp + 1))) ms_d_13 ?_
  refine a_iconst C dX12_parsesCommand_380 (v := 1) (by decide) ?_
  refine a_isub C dX12_parsesCommand_381 ?_
  refine a_top (y := (nI pp)) (x_Psub pp) ?_
  refine a_putI C (k := 175) iX12 tyX12_ok nmX12 x_k175 rfl (j := 13) rfl (by decide) (by decide +kernel) rfl (ty := .int) (by decide +kernel) rfl rfl dX12_parsesCommand_382 ?_
  refine a_toD (d2 := x_p (ms_d d (pp, true)) 182 k9 (nI 113)) (by rw [x_p_comm (k := 182) (k2 := 175) (by omega)]; exact congrArg (fun z => x_p z 182 k9 _) ms_d_p) ?_
  exact a_vret C hlocks hr dX12_parsesCommand_385 rfl

set_option maxHeartbeats 1000000 in
set_option maxRecDepth 100000 in
theorem c_M_parsesCommand_x115 (l : Launch) (G : xG) (d : xd) (tx : Nat → Nat) (L : Nat) (hL : L ≤ 60) (hln : d 175 7 = nI L) (htx : ∀ j, j < L → d 180 j = nI (tx j)) (ht7 : ∀ j, j < L → tx j < 128) (pp : Nat) (hpL : pp ≤ L) (k9 : Nat) (hk9 : k9 < 177) (hx : tp_h tx L pp = nI 115) : x_M G l yX12_parsesCommand wsX12_parsesCommand 5 0 0 [.ref (x_b G + 175), .int (nI k9)] (ms_d d (pp, false)) none (x_p (ms_d d (pp, true)) 182 k9 (nI 115)) := by
  have iX12 : ∀ w ∈ u_ws RX12 TX12 16, w ∈ wsX12_parsesCommand := by decide +kernel
  refine x_start (cc := cX12_parsesCommand) (maxL := 3) (ret := none) (own := RX12) (by decide) rfl rfl (Nat.le_of_ble_eq_true rfl) (lst := [(0, .ref (x_b G + 175)), (1, .int (nI k9))]) rfl ?_
  intro p e s m args below meth c C hr hlocks
  refine a_aload_n C dX12_parsesCommand_0 0 rfl ?_
  refine a_callV C (k := 175) (As := []) (rest := []) (c_M_here l G (ms_d d (pp, false)) tx L hL (by rw [ms_d_row (by omega) (by omega)]; exact hln) (fun j hj => by rw [ms_d_out (by omega)]; exact htx j hj) ht7 (pp, false).1 (by rw [ms_d_13]) (by have := hpL; omega)) (cwV 0 C.1.2.2.2.2 gX12_parsesCommand_X12_here rfl rfl rfl (by decide +kernel) ⟨Nat.le_of_ble_eq_true rfl, Nat.le_of_ble_eq_true rfl⟩) x_k175 (q := (RX12, TX12, 16)) rfl rfl rfl rfl (Nat.le_of_ble_eq_true rfl) dX12_parsesCommand_1 ⟨Nat.le_of_ble_eq_true rfl, Nat.le_of_ble_eq_true rfl⟩ ?_
  refine a_top (y := (nI 115)) (hx) ?_
  refine a_istore_n C dX12_parsesCommand_4 (by decide) (lst2 := [(2, .int (nI 115)), (0, .ref (x_b G + 175)), (1, .int (nI k9))]) rfl ?_
  refine a_aload_n C dX12_parsesCommand_5 1 rfl ?_
  refine a_dup C dX12_parsesCommand_6 rfl ?_
  refine a_getI C (k := 175) iX12 x_k175 rfl (j := 13) rfl (by decide) (by decide +kernel) dX12_parsesCommand_7 ?_
  refine a_top (y := (nI pp)) ms_d_13 ?_
  refine a_iconst C dX12_parsesCommand_10 (v := 1) (by decide) ?_
  refine a_iadd C dX12_parsesCommand_11 ?_
  refine a_top (y := (nI (pp + 1))) (nI_1 pp) ?_
  refine a_putI C (k := 175) iX12 tyX12_ok nmX12 x_k175 rfl (j := 13) rfl (by decide) (by decide +kernel) rfl (ty := .int) (by decide +kernel) rfl rfl dX12_parsesCommand_12 ?_
  refine a_toD (d2 := ms_d d (pp + 1, false)) ms_d_p ?_
  refine a_aload_n C dX12_parsesCommand_15 1 rfl ?_
  refine a_getR C (k := 175) iX12 x_k175 rfl (j := 15) rfl (by decide) (by decide +kernel) dX12_parsesCommand_16 ?_
  refine a_iload_n C dX12_parsesCommand_19 2 rfl ?_
  refine a_iload_n C dX12_parsesCommand_20 0 rfl ?_
  refine a_iastN C (k := 182) x_k182 (i := k9) rfl (by omega) (by first | decide | omega) dX12_parsesCommand_21 ?_
  refine a_iload_n C dX12_parsesCommand_22 0 rfl ?_
  refine a_tableIn C dX12_parsesCommand_23 (by decide +kernel) (by decide +kernel) (off := 347) (by decide +kernel) (tgt := 370) (by decide) ?_
  refine a_aload_n C dX12_parsesCommand_370 1 rfl ?_
  refine a_iconst C dX12_parsesCommand_371 (v := 1) (by decide) ?_
  refine a_putI C (k := 175) iX12 tyX12_ok nmX12 x_k175 rfl (j := 14) rfl (by decide) (by decide +kernel) rfl (ty := .boolean) (by decide +kernel) rfl rfl dX12_parsesCommand_372 ?_
  refine a_toD (d2 := x_p (ms_d d (pp + 1, true)) 182 k9 (nI 115)) (by rw [x_p_comm (k := 182) (k2 := 175) (by omega)]; exact congrArg (fun z => x_p z 182 k9 _) (ms_d_q (b := true))) ?_
  refine a_aload_n C dX12_parsesCommand_375 1 rfl ?_
  refine a_dup C dX12_parsesCommand_376 rfl ?_
  refine a_getI C (k := 175) iX12 x_k175 rfl (j := 13) rfl (by decide) (by decide +kernel) dX12_parsesCommand_377 ?_
  refine a_top (y := ((ms_d d (pp + 1, true)) 175 13)) (by first | rw [x_p_ne (by omega)] | rfl) ?_
  refine a_top (y := (nI (pp + 1))) ms_d_13 ?_
  refine a_iconst C dX12_parsesCommand_380 (v := 1) (by decide) ?_
  refine a_isub C dX12_parsesCommand_381 ?_
  refine a_top (y := (nI pp)) (x_Psub pp) ?_
  refine a_putI C (k := 175) iX12 tyX12_ok nmX12 x_k175 rfl (j := 13) rfl (by decide) (by decide +kernel) rfl (ty := .int) (by decide +kernel) rfl rfl dX12_parsesCommand_382 ?_
  refine a_toD (d2 := x_p (ms_d d (pp, true)) 182 k9 (nI 115)) (by rw [x_p_comm (k := 182) (k2 := 175) (by omega)]; exact congrArg (fun z => x_p z 182 k9 _) ms_d_p) ?_
  exact a_vret C hlocks hr dX12_parsesCommand_385 rfl

set_option maxHeartbeats 1000000 in
set_option maxRecDepth 100000 in
theorem c_M_parsesCommand_x116 (l : Launch) (G : xG) (d : xd) (tx : Nat → Nat) (L : Nat) (hL : L ≤ 60) (hln : d 175 7 = nI L) (htx : ∀ j, j < L → d 180 j = nI (tx j)) (ht7 : ∀ j, j < L → tx j < 128) (pp : Nat) (hpL : pp ≤ L) (k9 : Nat) (hk9 : k9 < 177) (hx : tp_h tx L pp = nI 116) : x_M G l yX12_parsesCommand wsX12_parsesCommand 5 0 0 [.ref (x_b G + 175), .int (nI k9)] (ms_d d (pp, false)) none (x_p (ms_d d (pp, true)) 182 k9 (nI 116)) := by
  have iX12 : ∀ w ∈ u_ws RX12 TX12 16, w ∈ wsX12_parsesCommand := by decide +kernel
  refine x_start (cc := cX12_parsesCommand) (maxL := 3) (ret := none) (own := RX12) (by decide) rfl rfl (Nat.le_of_ble_eq_true rfl) (lst := [(0, .ref (x_b G + 175)), (1, .int (nI k9))]) rfl ?_
  intro p e s m args below meth c C hr hlocks
  refine a_aload_n C dX12_parsesCommand_0 0 rfl ?_
  refine a_callV C (k := 175) (As := []) (rest := []) (c_M_here l G (ms_d d (pp, false)) tx L hL (by rw [ms_d_row (by omega) (by omega)]; exact hln) (fun j hj => by rw [ms_d_out (by omega)]; exact htx j hj) ht7 (pp, false).1 (by rw [ms_d_13]) (by have := hpL; omega)) (cwV 0 C.1.2.2.2.2 gX12_parsesCommand_X12_here rfl rfl rfl (by decide +kernel) ⟨Nat.le_of_ble_eq_true rfl, Nat.le_of_ble_eq_true rfl⟩) x_k175 (q := (RX12, TX12, 16)) rfl rfl rfl rfl (Nat.le_of_ble_eq_true rfl) dX12_parsesCommand_1 ⟨Nat.le_of_ble_eq_true rfl, Nat.le_of_ble_eq_true rfl⟩ ?_
  refine a_top (y := (nI 116)) (hx) ?_
  refine a_istore_n C dX12_parsesCommand_4 (by decide) (lst2 := [(2, .int (nI 116)), (0, .ref (x_b G + 175)), (1, .int (nI k9))]) rfl ?_
  refine a_aload_n C dX12_parsesCommand_5 1 rfl ?_
  refine a_dup C dX12_parsesCommand_6 rfl ?_
  refine a_getI C (k := 175) iX12 x_k175 rfl (j := 13) rfl (by decide) (by decide +kernel) dX12_parsesCommand_7 ?_
  refine a_top (y := (nI pp)) ms_d_13 ?_
  refine a_iconst C dX12_parsesCommand_10 (v := 1) (by decide) ?_
  refine a_iadd C dX12_parsesCommand_11 ?_
  refine a_top (y := (nI (pp + 1))) (nI_1 pp) ?_
  refine a_putI C (k := 175) iX12 tyX12_ok nmX12 x_k175 rfl (j := 13) rfl (by decide) (by decide +kernel) rfl (ty := .int) (by decide +kernel) rfl rfl dX12_parsesCommand_12 ?_
  refine a_toD (d2 := ms_d d (pp + 1, false)) ms_d_p ?_
  refine a_aload_n C dX12_parsesCommand_15 1 rfl ?_
  refine a_getR C (k := 175) iX12 x_k175 rfl (j := 15) rfl (by decide) (by decide +kernel) dX12_parsesCommand_16 ?_
  refine a_iload_n C dX12_parsesCommand_19 2 rfl ?_
  refine a_iload_n C dX12_parsesCommand_20 0 rfl ?_
  refine a_iastN C (k := 182) x_k182 (i := k9) rfl (by omega) (by first | decide | omega) dX12_parsesCommand_21 ?_
  refine a_iload_n C dX12_parsesCommand_22 0 rfl ?_
  refine a_tableIn C dX12_parsesCommand_23 (by decide +kernel) (by decide +kernel) (off := 347) (by decide +kernel) (tgt := 370) (by decide) ?_
  refine a_aload_n C dX12_parsesCommand_370 1 rfl ?_
  refine a_iconst C dX12_parsesCommand_371 (v := 1) (by decide) ?_
  refine a_putI C (k := 175) iX12 tyX12_ok nmX12 x_k175 rfl (j := 14) rfl (by decide) (by decide +kernel) rfl (ty := .boolean) (by decide +kernel) rfl rfl dX12_parsesCommand_372 ?_
  refine a_toD (d2 := x_p (ms_d d (pp + 1, true)) 182 k9 (nI 116)) (by rw [x_p_comm (k := 182) (k2 := 175) (by omega)]; exact congrArg (fun z => x_p z 182 k9 _) (ms_d_q (b := true))) ?_
  refine a_aload_n C dX12_parsesCommand_375 1 rfl ?_
  refine a_dup C dX12_parsesCommand_376 rfl ?_
  refine a_getI C (k := 175) iX12 x_k175 rfl (j := 13) rfl (by decide) (by decide +kernel) dX12_parsesCommand_377 ?_
  refine a_top (y := ((ms_d d (pp + 1, true)) 175 13)) (by first | rw [x_p_ne (by omega)] | rfl) ?_
  refine a_top (y := (nI (pp + 1))) ms_d_13 ?_
  refine a_iconst C dX12_parsesCommand_380 (v := 1) (by decide) ?_
  refine a_isub C dX12_parsesCommand_381 ?_
  refine a_top (y := (nI pp)) (x_Psub pp) ?_
  refine a_putI C (k := 175) iX12 tyX12_ok nmX12 x_k175 rfl (j := 13) rfl (by decide) (by decide +kernel) rfl (ty := .int) (by decide +kernel) rfl rfl dX12_parsesCommand_382 ?_
  refine a_toD (d2 := x_p (ms_d d (pp, true)) 182 k9 (nI 116)) (by rw [x_p_comm (k := 182) (k2 := 175) (by omega)]; exact congrArg (fun z => x_p z 182 k9 _) ms_d_p) ?_
  exact a_vret C hlocks hr dX12_parsesCommand_385 rfl

set_option maxHeartbeats 1000000 in
set_option maxRecDepth 100000 in
theorem c_M_parsesCommand_x117 (l : Launch) (G : xG) (d : xd) (tx : Nat → Nat) (L : Nat) (hL : L ≤ 60) (hln : d 175 7 = nI L) (htx : ∀ j, j < L → d 180 j = nI (tx j)) (ht7 : ∀ j, j < L → tx j < 128) (pp : Nat) (hpL : pp ≤ L) (k9 : Nat) (hk9 : k9 < 177) (hx : tp_h tx L pp = nI 117) : x_M G l yX12_parsesCommand wsX12_parsesCommand 5 0 0 [.ref (x_b G + 175), .int (nI k9)] (ms_d d (pp, false)) none (x_p (ms_d d (pp, true)) 182 k9 (nI 117)) := by
  have iX12 : ∀ w ∈ u_ws RX12 TX12 16, w ∈ wsX12_parsesCommand := by decide +kernel
  refine x_start (cc := cX12_parsesCommand) (maxL := 3) (ret := none) (own := RX12) (by decide) rfl rfl (Nat.le_of_ble_eq_true rfl) (lst := [(0, .ref (x_b G + 175)), (1, .int (nI k9))]) rfl ?_
  intro p e s m args below meth c C hr hlocks
  refine a_aload_n C dX12_parsesCommand_0 0 rfl ?_
  refine a_callV C (k := 175) (As := []) (rest := []) (c_M_here l G (ms_d d (pp, false)) tx L hL (by rw [ms_d_row (by omega) (by omega)]; exact hln) (fun j hj => by rw [ms_d_out (by omega)]; exact htx j hj) ht7 (pp, false).1 (by rw [ms_d_13]) (by have := hpL; omega)) (cwV 0 C.1.2.2.2.2 gX12_parsesCommand_X12_here rfl rfl rfl (by decide +kernel) ⟨Nat.le_of_ble_eq_true rfl, Nat.le_of_ble_eq_true rfl⟩) x_k175 (q := (RX12, TX12, 16)) rfl rfl rfl rfl (Nat.le_of_ble_eq_true rfl) dX12_parsesCommand_1 ⟨Nat.le_of_ble_eq_true rfl, Nat.le_of_ble_eq_true rfl⟩ ?_
  refine a_top (y := (nI 117)) (hx) ?_
  refine a_istore_n C dX12_parsesCommand_4 (by decide) (lst2 := [(2, .int (nI 117)), (0, .ref (x_b G + 175)), (1, .int (nI k9))]) rfl ?_
  refine a_aload_n C dX12_parsesCommand_5 1 rfl ?_
  refine a_dup C dX12_parsesCommand_6 rfl ?_
  refine a_getI C (k := 175) iX12 x_k175 rfl (j := 13) rfl (by decide) (by decide +kernel) dX12_parsesCommand_7 ?_
  refine a_top (y := (nI pp)) ms_d_13 ?_
  refine a_iconst C dX12_parsesCommand_10 (v := 1) (by decide) ?_
  refine a_iadd C dX12_parsesCommand_11 ?_
  refine a_top (y := (nI (pp + 1))) (nI_1 pp) ?_
  refine a_putI C (k := 175) iX12 tyX12_ok nmX12 x_k175 rfl (j := 13) rfl (by decide) (by decide +kernel) rfl (ty := .int) (by decide +kernel) rfl rfl dX12_parsesCommand_12 ?_
  refine a_toD (d2 := ms_d d (pp + 1, false)) ms_d_p ?_
  refine a_aload_n C dX12_parsesCommand_15 1 rfl ?_
  refine a_getR C (k := 175) iX12 x_k175 rfl (j := 15) rfl (by decide) (by decide +kernel) dX12_parsesCommand_16 ?_
  refine a_iload_n C dX12_parsesCommand_19 2 rfl ?_
  refine a_iload_n C dX12_parsesCommand_20 0 rfl ?_
  refine a_iastN C (k := 182) x_k182 (i := k9) rfl (by omega) (by first | decide | omega) dX12_parsesCommand_21 ?_
  refine a_iload_n C dX12_parsesCommand_22 0 rfl ?_
  refine a_tableIn C dX12_parsesCommand_23 (by decide +kernel) (by decide +kernel) (off := 347) (by decide +kernel) (tgt := 370) (by decide) ?_
  refine a_aload_n C dX12_parsesCommand_370 1 rfl ?_
  refine a_iconst C dX12_parsesCommand_371 (v := 1) (by decide) ?_
  refine a_putI C (k := 175) iX12 tyX12_ok nmX12 x_k175 rfl (j := 14) rfl (by decide) (by decide +kernel) rfl (ty := .boolean) (by decide +kernel) rfl rfl dX12_parsesCommand_372 ?_
  refine a_toD (d2 := x_p (ms_d d (pp + 1, true)) 182 k9 (nI 117)) (by rw [x_p_comm (k := 182) (k2 := 175) (by omega)]; exact congrArg (fun z => x_p z 182 k9 _) (ms_d_q (b := true))) ?_
  refine a_aload_n C dX12_parsesCommand_375 1 rfl ?_
  refine a_dup C dX12_parsesCommand_376 rfl ?_
  refine a_getI C (k := 175) iX12 x_k175 rfl (j := 13) rfl (by decide) (by decide +kernel) dX12_parsesCommand_377 ?_
  refine a_top (y := ((ms_d d (pp + 1, true)) 175 13)) (by first | rw [x_p_ne (by omega)] | rfl) ?_
  refine a_top (y := (nI (pp + 1))) ms_d_13 ?_
  refine a_iconst C dX12_parsesCommand_380 (v := 1) (by decide) ?_
  refine a_isub C dX12_parsesCommand_381 ?_
  refine a_top (y := (nI pp)) (x_Psub pp) ?_
  refine a_putI C (k := 175) iX12 tyX12_ok nmX12 x_k175 rfl (j := 13) rfl (by decide) (by decide +kernel) rfl (ty := .int) (by decide +kernel) rfl rfl dX12_parsesCommand_382 ?_
  refine a_toD (d2 := x_p (ms_d d (pp, true)) 182 k9 (nI 117)) (by rw [x_p_comm (k := 182) (k2 := 175) (by omega)]; exact congrArg (fun z => x_p z 182 k9 _) ms_d_p) ?_
  exact a_vret C hlocks hr dX12_parsesCommand_385 rfl

set_option maxHeartbeats 1000000 in
set_option maxRecDepth 100000 in
theorem c_M_parsesCommand_x118 (l : Launch) (G : xG) (d : xd) (tx : Nat → Nat) (L : Nat) (hL : L ≤ 60) (hln : d 175 7 = nI L) (htx : ∀ j, j < L → d 180 j = nI (tx j)) (ht7 : ∀ j, j < L → tx j < 128) (pp : Nat) (hpL : pp ≤ L) (k9 : Nat) (hk9 : k9 < 177) (hx : tp_h tx L pp = nI 118) : x_M G l yX12_parsesCommand wsX12_parsesCommand 5 0 0 [.ref (x_b G + 175), .int (nI k9)] (ms_d d (pp, false)) none (x_p (ms_d d (pp, true)) 182 k9 (nI 118)) := by
  have iX12 : ∀ w ∈ u_ws RX12 TX12 16, w ∈ wsX12_parsesCommand := by decide +kernel
  refine x_start (cc := cX12_parsesCommand) (maxL := 3) (ret := none) (own := RX12) (by decide) rfl rfl (Nat.le_of_ble_eq_true rfl) (lst := [(0, .ref (x_b G + 175)), (1, .int (nI k9))]) rfl ?_
  intro p e s m args below meth c C hr hlocks
  refine a_aload_n C dX12_parsesCommand_0 0 rfl ?_
  refine a_callV C (k := 175) (As := []) (rest := []) (c_M_here l G (ms_d d (pp, false)) tx L hL (by rw [ms_d_row (by omega) (by omega)]; exact hln) (fun j hj => by rw [ms_d_out (by omega)]; exact htx j hj) ht7 (pp, false).1 (by rw [ms_d_13]) (by have := hpL; omega)) (cwV 0 C.1.2.2.2.2 gX12_parsesCommand_X12_here rfl rfl rfl (by decide +kernel) ⟨Nat.le_of_ble_eq_true rfl, Nat.le_of_ble_eq_true rfl⟩) x_k175 (q := (RX12, TX12, 16)) rfl rfl rfl rfl (Nat.le_of_ble_eq_true rfl) dX12_parsesCommand_1 ⟨Nat.le_of_ble_eq_true rfl, Nat.le_of_ble_eq_true rfl⟩ ?_
  refine a_top (y := (nI 118)) (hx) ?_
  refine a_istore_n C dX12_parsesCommand_4 (by decide) (lst2 := [(2, .int (nI 118)), (0, .ref (x_b G + 175)), (1, .int (nI k9))]) rfl ?_
  refine a_aload_n C dX12_parsesCommand_5 1 rfl ?_
  refine a_dup C dX12_parsesCommand_6 rfl ?_
  refine a_getI C (k := 175) iX12 x_k175 rfl (j := 13) rfl (by decide) (by decide +kernel) dX12_parsesCommand_7 ?_
  refine a_top (y := (nI pp)) ms_d_13 ?_
  refine a_iconst C dX12_parsesCommand_10 (v := 1) (by decide) ?_
  refine a_iadd C dX12_parsesCommand_11 ?_
  refine a_top (y := (nI (pp + 1))) (nI_1 pp) ?_
  refine a_putI C (k := 175) iX12 tyX12_ok nmX12 x_k175 rfl (j := 13) rfl (by decide) (by decide +kernel) rfl (ty := .int) (by decide +kernel) rfl rfl dX12_parsesCommand_12 ?_
  refine a_toD (d2 := ms_d d (pp + 1, false)) ms_d_p ?_
  refine a_aload_n C dX12_parsesCommand_15 1 rfl ?_
  refine a_getR C (k := 175) iX12 x_k175 rfl (j := 15) rfl (by decide) (by decide +kernel) dX12_parsesCommand_16 ?_
  refine a_iload_n C dX12_parsesCommand_19 2 rfl ?_
  refine a_iload_n C dX12_parsesCommand_20 0 rfl ?_
  refine a_iastN C (k := 182) x_k182 (i := k9) rfl (by omega) (by first | decide | omega) dX12_parsesCommand_21 ?_
  refine a_iload_n C dX12_parsesCommand_22 0 rfl ?_
  refine a_tableIn C dX12_parsesCommand_23 (by decide +kernel) (by decide +kernel) (off := 347) (by decide +kernel) (tgt := 370) (by decide) ?_
  refine a_aload_n C dX12_parsesCommand_370 1 rfl ?_
  refine a_iconst C dX12_parsesCommand_371 (v := 1) (by decide) ?_
  refine a_putI C (k := 175) iX12 tyX12_ok nmX12 x_k175 rfl (j := 14) rfl (by decide) (by decide +kernel) rfl (ty := .boolean) (by decide +kernel) rfl rfl dX12_parsesCommand_372 ?_
  refine a_toD (d2 := x_p (ms_d d (pp + 1, true)) 182 k9 (nI 118)) (by rw [x_p_comm (k := 182) (k2 := 175) (by omega)]; exact congrArg (fun z => x_p z 182 k9 _) (ms_d_q (b := true))) ?_
  refine a_aload_n C dX12_parsesCommand_375 1 rfl ?_
  refine a_dup C dX12_parsesCommand_376 rfl ?_
  refine a_getI C (k := 175) iX12 x_k175 rfl (j := 13) rfl (by decide) (by decide +kernel) dX12_parsesCommand_377 ?_
  refine a_top (y := ((ms_d d (pp + 1, true)) 175 13)) (by first | rw [x_p_ne (by omega)] | rfl) ?_
  refine a_top (y := (nI (pp + 1))) ms_d_13 ?_
  refine a_iconst C dX12_parsesCommand_380 (v := 1) (by decide) ?_
  refine a_isub C dX12_parsesCommand_381 ?_
  refine a_top (y := (nI pp)) (x_Psub pp) ?_
  refine a_putI C (k := 175) iX12 tyX12_ok nmX12 x_k175 rfl (j := 13) rfl (by decide) (by decide +kernel) rfl (ty := .int) (by decide +kernel) rfl rfl dX12_parsesCommand_382 ?_
  refine a_toD (d2 := x_p (ms_d d (pp, true)) 182 k9 (nI 118)) (by rw [x_p_comm (k := 182) (k2 := 175) (by omega)]; exact congrArg (fun z => x_p z 182 k9 _) ms_d_p) ?_
  exact a_vret C hlocks hr dX12_parsesCommand_385 rfl

