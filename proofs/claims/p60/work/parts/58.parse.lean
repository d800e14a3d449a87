theorem tp_vp_ge {tx : Nat → Nat} {L pp w : Nat} (h : tp_vo tx L pp = true) (hw : 1 ≤ w) : pp + 2 ≤ tp_vp tx L pp w := by
  obtain ⟨h1, h2⟩ := x_and_of h
  unfold tp_vp
  rw [if_pos h1, if_pos h2]
  have e : ∀ k, 1 ≤ k → 1 ≤ tp_dc tx L (pp + 1) k := by
    intro k hk
    induction k with
    | zero => omega
    | succ k ih =>
      rw [tp_dc]
      split
      · omega
      · rename_i z
        rcases Nat.eq_zero_or_pos k with e0 | e0
        · subst e0
          exact absurd ⟨rfl, h2⟩ z
        · exact ih e0
  have := e w hw
  omega
theorem tp_ap_ge {tx : Nat → Nat} {L v q : Nat} : ∀ a, tp_af tx L v q a = a → q + 2 * a ≤ tp_ap tx L v q a
  | 0, _ => Nat.le_refl _
  | a + 1, h => by
    have h0 := tp_af_pre tx L v q (a + 1) a (by omega)
    have h1 := tp_ap_ge a h0
    have h2 : tp_vo tx L (tp_ap tx L v q a) = true := by
      by_cases z : tp_vo tx L (tp_ap tx L v q a) = true
      · exact z
      · have := tp_af_stop tx L v q a z h0 (a + 1) (by omega)
        omega
    have h3 := tp_vp_ge (w := tp_m v a) h2 (tp_m_le v a).1
    rw [tp_ap]
    omega
theorem tp_len3 : ∀ v, v < 13 → 3 ≤ x_wL v + 2 * tp_vn v := by decide +kernel
theorem tp_ce_ge {tx : Nat → Nat} {L pp : Nat} (h : tp_co tx L pp) : pp + 3 ≤ tp_ce tx L pp := by
  have h1 := tp_ap_ge _ h.2
  have h2 := tp_len3 _ h.1
  unfold tp_ce
  rw [if_pos h.1, if_pos h.2]
  omega

/-! the whole text -/
def tp_q (tx : Nat → Nat) (L pp : Nat) : Nat := pp + x_wL (tp_vb tx L pp)
def tp_af9 (tx : Nat → Nat) (L pp : Nat) : Nat := tp_af tx L (tp_vb tx L pp) (pp + x_wL (tp_vb tx L pp)) (tp_vn (tp_vb tx L pp))
def t_rx (d : xd) (tx : Nat → Nat) (L pp c k k2 : Nat) : xd := t_w d (nI (tp_ap tx L (tp_vb tx L pp) (pp + x_wL (tp_vb tx L pp)) k2)) c (nI (tp_vb tx L pp + 1)) (nI (tp_r1 tx L (tp_vb tx L pp) (pp + x_wL (tp_vb tx L pp)) k)) (nI (tp_r2 tx L (tp_vb tx L pp) (pp + x_wL (tp_vb tx L pp)) k))
/-- behind a whole command at pp; behind a broken one -/
def t_rc (d : xd) (tx : Nat → Nat) (L pp c : Nat) : xd := t_rx d tx L pp c (tp_vn (tp_vb tx L pp)) (tp_vn (tp_vb tx L pp))
def t_rf (d : xd) (tx : Nat → Nat) (L pp c : Nat) : xd := if tp_vb tx L pp < 13 then t_rx d tx L pp c (tp_af9 tx L pp) (tp_af9 tx L pp + 1) else x_p d 168 2 (nI (pp + tp_mx tx L pp 13))
def t_pa (d : xd) (tx : Nat → Nat) (L : Nat) : Nat → xd
  | 0 => x_p (x_p d 168 2 0) 168 3 0
  | c + 1 => x_p (x_p (t_rc (t_pa d tx L c) tx L (tp_P tx L c) c) 168 3 (nI (c + 1))) 168 2 (nI (tp_ce tx L (tp_P tx L c) + 1))
theorem t_rx_out {d : xd} {tx : Nat → Nat} {L pp c w w2 k : Nat} (h : k ≠ 168) (h2 : k < 170 ∨ 172 < k) : t_rx d tx L pp c w w2 k = d k := t_w_out h h2
theorem t_rx_1 {d : xd} {tx : Nat → Nat} {L pp c w w2 j : Nat} (h : j ≠ 2) : t_rx d tx L pp c w w2 168 j = d 168 j := t_w_1 h
theorem tp_ce_ok {tx : Nat → Nat} {L pp : Nat} (h : tp_co tx L pp) : tp_ap tx L (tp_vb tx L pp) (pp + x_wL (tp_vb tx L pp)) (tp_vn (tp_vb tx L pp)) = tp_ce tx L pp := by
  unfold tp_ce
  rw [if_pos h.1, if_pos h.2]
theorem t_rc_2 {d : xd} {tx : Nat → Nat} {L pp c : Nat} (h : tp_co tx L pp) : t_rc d tx L pp c 168 2 = nI (tp_ce tx L pp) := by
  rw [← tp_ce_ok h]
  unfold t_rc t_rx
  exact t_w_2
theorem t_pa_out {d : xd} {tx : Nat → Nat} {L k : Nat} (h : k ≠ 168) (h2 : k < 170 ∨ 172 < k) : ∀ c, t_pa d tx L c k = d k
  | 0 => by rw [t_pa, x_p_ne h, x_p_ne h]
  | c + 1 => by rw [t_pa, x_p_ne h, x_p_ne h, t_rc, t_rx_out h h2, t_pa_out h h2 c]
theorem t_pa_1 {d : xd} {tx : Nat → Nat} {L j : Nat} (h : j ≠ 2) (h2 : j ≠ 3) : ∀ c, t_pa d tx L c 168 j = d 168 j
  | 0 => by rw [t_pa, x_p_row h2, x_p_row h]
  | c + 1 => by rw [t_pa, x_p_row h, x_p_row h2, t_rc, t_rx_1 h, t_pa_1 h h2 c]
theorem t_pa_2 {d : xd} {tx : Nat → Nat} {L : Nat} : ∀ c, t_pa d tx L c 168 2 = nI (tp_P tx L c)
  | 0 => by rw [t_pa, x_p_row (by omega), x_p_at]; rfl
  | c + 1 => by rw [t_pa, x_p_at, tp_P]
theorem tp_ce_le {tx : Nat → Nat} {L pp : Nat} (hp : pp ≤ L) (h : tp_co tx L pp) : tp_ce tx L pp ≤ L := by
  rw [← tp_ce_ok h]
  exact tp_ap_le (tp_vb_in hp h.1 rfl) _
theorem tp_P_le {tx : Nat → Nat} {L : Nat} : ∀ c, (∀ j, j < c → tp_co tx L (tp_P tx L j) ∧ tp_c tx L (tp_ce tx L (tp_P tx L j)) 59 = true) → tp_P tx L c ≤ L
  | 0, _ => Nat.zero_le L
  | c + 1, h => by
    have h1 := tp_c_lt (h c (by omega)).2
    rw [tp_P]
    omega
theorem tp_P_ge {tx : Nat → Nat} {L : Nat} : ∀ c, (∀ j, j < c → tp_co tx L (tp_P tx L j)) → 4 * c ≤ tp_P tx L c + 0 * L
  | 0, _ => Nat.zero_le _
  | c + 1, h => by
    have h1 := tp_P_ge c (fun j hj => h j (by omega))
    have h2 := h c (by omega)
    have h3 := tp_ce_ge h2
    rw [tp_P]
    omega

theorem x_13 {v : Nat} (h : v ≤ 13) (h2 : ¬ v < 13) : v = 13 := by omega
set_option maxHeartbeats 1000000 in
set_option maxRecDepth 100000 in
theorem c_T_parse_ok (l : Launch) (G : xG) (d : xd) (tx : Nat → Nat) (L : Nat) (hL : L ≤ 60) (hln : d 168 1 = nI L) (htx : ∀ j, j < L → d 169 j = nI (tx j)) (ht7 : ∀ j, j < L → tx j < 128) (k9 : Nat) (hgood : ∀ j, j < k9 → tp_co tx L (tp_P tx L j) ∧ tp_c tx L (tp_ce tx L (tp_P tx L j)) 59 = true) (hk9 : k9 < 15) (hco : tp_co tx L (tp_P tx L k9)) (hend : L ≤ tp_ce tx L (tp_P tx L k9)) : x_M G l yX3_parse wsX3_parse 8 0 0 [.ref (x_b G + 168)] d (some (.int 1)) (x_p (t_rc (t_pa d tx L k9) tx L (tp_P tx L k9) k9) 168 3 (nI (k9 + 1))) := by
  have iX3 : ∀ w ∈ u_ws RX3 TX3 7, w ∈ wsX3_parse := by decide +kernel
  refine x_start (cc := cX3_parse) (maxL := 2) (ret := (some .boolean)) (own := RX3) (by decide) rfl rfl (Nat.le_of_ble_eq_true rfl) (lst := [(0, .ref (x_b G + 168))]) rfl ?_
  intro p e s m args below meth c C hr hlocks
  refine a_aload_n C dX3_parse_0 0 rfl ?_
  refine a_iconst C dX3_parse_1 (v := 0) (by decide) ?_
  refine a_putI C (k := 168) iX3 tyX3_ok nmX3 x_k168 rfl (j := 2) rfl (by decide) (by decide +kernel) rfl (ty := .int) (by decide +kernel) rfl rfl dX3_parse_2 ?_
  refine a_aload_n C dX3_parse_5 0 rfl ?_
  refine a_iconst C dX3_parse_6 (v := 0) (by decide) ?_
  refine a_putI C (k := 168) iX3 tyX3_ok nmX3 x_k168 rfl (j := 3) rfl (by decide) (by decide +kernel) rfl (ty := .int) (by decide +kernel) rfl rfl dX3_parse_7 ?_
  refine a_iconst C dX3_parse_10 (v := 0) (by decide) ?_
  refine a_istore_n C dX3_parse_11 (by decide) (lst2 := [(1, .int 0), (0, .ref (x_b G + 168))]) rfl ?_
  have L12 : ∀ (j i : Nat), i ≤ k9 → k9 < i + j → Ab G p l e (x_rm 8 0 0) s m args below meth c 2 0 0 (MQ below (x_Q G (some (.int 1)) (x_p (t_rc (t_pa d tx L k9) tx L (tp_P tx L k9) k9) 168 3 (nI (k9 + 1)))) args s 0 0 (x_A G)) 12 [(1, .int (nI i)), (0, .ref (x_b G + 168))] [] (t_pa d tx L i) := by
    intro j
    induction j with
    | zero => intro i h1 h2; exact absurd h2 (by omega)
    | succ j ih =>
      intro i hi hj 
      refine a_iload_n C dX3_parse_12 0 rfl ?_
      refine a_bipush C dX3_parse_13 (v := 15) (by decide) ?_
      refine a_icmp_ge C dX3_parse_15 (tgt := 65) (by decide) (fun h => absurd h (nI_ge (b := 15) (by omega) (by omega))) (fun h15 => ?_)
      refine a_aload_n C dX3_parse_18 1 rfl ?_
      refine a_iload_n C dX3_parse_19 0 rfl ?_
      have hpl := tp_P_le i (fun j hj => hgood j (by omega))
      rcases Nat.lt_or_ge i k9 with hik | hik
      · skip
        obtain ⟨hco, h59⟩ := hgood i hik
        have hce := tp_ce_le hpl hco
        refine a_callV C (k := 168) (As := [.int (nI i)]) (rest := []) (c_T_readCommand_t l G (t_pa d tx L i) tx L hL (t_pa_1 (by omega) (by omega) i |>.trans hln) (fun j hj => by rw [t_pa_out (by omega) (by omega)]; exact htx j hj) ht7 (tp_P tx L i) (t_pa_2 i) hpl i (by omega) (tp_vb tx L (tp_P tx L i)) hco.1 rfl hco.2) (cwV 1 C.1.2.2.2.2 gX3_parse_X3_readCommand rfl rfl rfl (by decide +kernel) ⟨Nat.le_of_ble_eq_true rfl, Nat.le_of_ble_eq_true rfl⟩) x_k168 (q := (RX3, TX3, 7)) rfl rfl rfl rfl (Nat.le_of_ble_eq_true rfl) dX3_parse_20 ⟨Nat.le_of_ble_eq_true rfl, Nat.le_of_ble_eq_true rfl⟩ ?_
        refine a_toD (d2 := t_rc (t_pa d tx L i) tx L (tp_P tx L i) i) rfl ?_
        have hlt := tp_c_lt h59
        refine a_if_ne C dX3_parse_23 (tgt := 28) (by decide) (fun _ => ?_) (fun h => absurd h (by decide))
        refine a_aload_n C dX3_parse_28 1 rfl ?_
        refine a_iload_n C dX3_parse_29 0 rfl ?_
        refine a_iconst C dX3_parse_30 (v := 1) (by decide) ?_
        refine a_iadd C dX3_parse_31 ?_
        refine a_top (y := (nI (i + 1))) (nI_1 i) ?_
        refine a_putI C (k := 168) iX3 tyX3_ok nmX3 x_k168 rfl (j := 3) rfl (by decide) (by decide +kernel) rfl (ty := .int) (by decide +kernel) rfl rfl dX3_parse_32 ?_
        refine a_aload_n C dX3_parse_35 1 rfl ?_
        refine a_getI C (k := 168) iX3 x_k168 rfl (j := 2) rfl (by decide) (by decide +kernel) dX3_parse_36 ?_
        refine a_top (y := ((t_rc (t_pa d tx L i) tx L (tp_P tx L i) i) 168 2)) (by first | rw [x_p_row (by omega)] | rfl) ?_
        refine a_top (y := (nI (tp_ce tx L (tp_P tx L i)))) (t_rc_2 hco) ?_
        refine a_aload_n C dX3_parse_39 1 rfl ?_
        refine a_getI C (k := 168) iX3 x_k168 rfl (j := 1) rfl (by decide) (by decide +kernel) dX3_parse_40 ?_
        refine a_top (y := ((t_rc (t_pa d tx L i) tx L (tp_P tx L i) i) 168 1)) (by first | rw [x_p_row (by omega)] | rfl) ?_
        refine a_top (y := (nI L)) ((t_rx_1 (by omega)).trans ((t_pa_1 (by omega) (by omega) i).trans hln)) ?_
        refine a_icmp_lt C dX3_parse_43 (tgt := 48) (by decide) (fun h43 => ?_) (fun h => False.elim (h (nI_lt hlt (by omega))))
        refine a_aload_n C dX3_parse_48 1 rfl ?_
        refine a_bipush C dX3_parse_49 (v := 59) (by decide) ?_
        refine a_callV C (k := 168) (As := [.int 59]) (rest := []) (c_T_readCharacter_t l G (x_p (t_rc (t_pa d tx L i) tx L (tp_P tx L i) i) 168 3 (nI (i + 1))) tx L hL (by rw [x_p_row (by omega)]; exact (t_rx_1 (by omega)).trans ((t_pa_1 (by omega) (by omega) i).trans hln)) (fun j hj => by rw [x_p_ne (by omega)]; exact (congrFun (t_rx_out (by omega) (by omega)) j).trans ((congrFun (t_pa_out (by omega) (by omega) i) j).trans (htx j hj))) ht7 (tp_ce tx L (tp_P tx L i)) (by rw [x_p_row (by omega)]; exact t_rc_2 hco) hce 59 (by omega) h59) (cwV 1 C.1.2.2.2.2 gX3_parse_X3_readCharacter rfl rfl rfl (by decide +kernel) ⟨Nat.le_of_ble_eq_true rfl, Nat.le_of_ble_eq_true rfl⟩) x_k168 (q := (RX3, TX3, 7)) rfl rfl rfl rfl (Nat.le_of_ble_eq_true rfl) dX3_parse_51 ⟨Nat.le_of_ble_eq_true rfl, Nat.le_of_ble_eq_true rfl⟩ ?_
        refine a_if_ne C dX3_parse_54 (tgt := 59) (by decide) (fun _ => ?_) (fun h => absurd h (by decide))
        refine a_iinc C dX3_parse_59 0 rfl (v := (nI (i + 1))) (x_inc i) (by decide) (lst2 := [(1, .int (nI (i + 1))), (0, .ref (x_b G + 168))]) rfl ?_
        refine a_goto C dX3_parse_62 (tgt := 12) (by decide) ?_
        refine a_sub (lst2 := [(1, .int (nI (i + 1))), (0, .ref (x_b G + 168))]) [0, 1] rfl ?_
        refine a_to (lst2 := [(1, .int (nI ((i + 1)))), (0, .ref (x_b G + 168))]) (st2 := []) (d2 := t_pa d tx L ((i + 1))) rfl rfl rfl ?_
        exact ih (i + 1) (by omega) (by omega) 
      · skip
        have e9 : k9 = i := by omega
        subst e9
        have hce := tp_ce_le hpl hco
        refine a_callV C (k := 168) (As := [.int (nI k9)]) (rest := []) (c_T_readCommand_t l G (t_pa d tx L k9) tx L hL (t_pa_1 (by omega) (by omega) k9 |>.trans hln) (fun j hj => by rw [t_pa_out (by omega) (by omega)]; exact htx j hj) ht7 (tp_P tx L k9) (t_pa_2 k9) hpl k9 (by omega) (tp_vb tx L (tp_P tx L k9)) hco.1 rfl hco.2) (cwV 1 C.1.2.2.2.2 gX3_parse_X3_readCommand rfl rfl rfl (by decide +kernel) ⟨Nat.le_of_ble_eq_true rfl, Nat.le_of_ble_eq_true rfl⟩) x_k168 (q := (RX3, TX3, 7)) rfl rfl rfl rfl (Nat.le_of_ble_eq_true rfl) dX3_parse_20 ⟨Nat.le_of_ble_eq_true rfl, Nat.le_of_ble_eq_true rfl⟩ ?_
        refine a_toD (d2 := t_rc (t_pa d tx L k9) tx L (tp_P tx L k9) k9) rfl ?_
        refine a_if_ne C dX3_parse_23 (tgt := 28) (by decide) (fun _ => ?_) (fun h => absurd h (by decide))
        refine a_aload_n C dX3_parse_28 1 rfl ?_
        refine a_iload_n C dX3_parse_29 0 rfl ?_
        refine a_iconst C dX3_parse_30 (v := 1) (by decide) ?_
        refine a_iadd C dX3_parse_31 ?_
        refine a_top (y := (nI (k9 + 1))) (nI_1 k9) ?_
        refine a_putI C (k := 168) iX3 tyX3_ok nmX3 x_k168 rfl (j := 3) rfl (by decide) (by decide +kernel) rfl (ty := .int) (by decide +kernel) rfl rfl dX3_parse_32 ?_
        refine a_aload_n C dX3_parse_35 1 rfl ?_
        refine a_getI C (k := 168) iX3 x_k168 rfl (j := 2) rfl (by decide) (by decide +kernel) dX3_parse_36 ?_
        refine a_top (y := ((t_rc (t_pa d tx L k9) tx L (tp_P tx L k9) k9) 168 2)) (by first | rw [x_p_row (by omega)] | rfl) ?_
        refine a_top (y := (nI (tp_ce tx L (tp_P tx L k9)))) (t_rc_2 hco) ?_
        refine a_aload_n C dX3_parse_39 1 rfl ?_
        refine a_getI C (k := 168) iX3 x_k168 rfl (j := 1) rfl (by decide) (by decide +kernel) dX3_parse_40 ?_
        refine a_top (y := ((t_rc (t_pa d tx L k9) tx L (tp_P tx L k9) k9) 168 1)) (by first | rw [x_p_row (by omega)] | rfl) ?_
        refine a_top (y := (nI L)) ((t_rx_1 (by omega)).trans ((t_pa_1 (by omega) (by omega) k9).trans hln)) ?_
        refine a_icmp_lt C dX3_parse_43 (tgt := 48) (by decide) (fun h => absurd h (nI_nlt hend (by omega))) (fun h43 => ?_)
        refine a_iconst C dX3_parse_46 (v := 1) (by decide) ?_
        exact a_zret C hlocks hr rfl dX3_parse_47 rfl rfl
  refine a_sub (lst2 := [(1, .int 0), (0, .ref (x_b G + 168))]) [0, 1] rfl ?_
  exact L12 (k9 + 1) 0 (by omega) (by omega) 

set_option maxHeartbeats 1000000 in
set_option maxRecDepth 100000 in
theorem c_T_parse_bad1 (l : Launch) (G : xG) (d : xd) (tx : Nat → Nat) (L : Nat) (hL : L ≤ 60) (hln : d 168 1 = nI L) (htx : ∀ j, j < L → d 169 j = nI (tx j)) (ht7 : ∀ j, j < L → tx j < 128) (k9 : Nat) (hgood : ∀ j, j < k9 → tp_co tx L (tp_P tx L j) ∧ tp_c tx L (tp_ce tx L (tp_P tx L j)) 59 = true) (hk9 : k9 < 15) (hbad : ¬ tp_co tx L (tp_P tx L k9)) : x_M G l yX3_parse wsX3_parse 8 0 0 [.ref (x_b G + 168)] d (some (.int 0)) (t_rf (t_pa d tx L k9) tx L (tp_P tx L k9) k9) := by
  have iX3 : ∀ w ∈ u_ws RX3 TX3 7, w ∈ wsX3_parse := by decide +kernel
  refine x_start (cc := cX3_parse) (maxL := 2) (ret := (some .boolean)) (own := RX3) (by decide) rfl rfl (Nat.le_of_ble_eq_true rfl) (lst := [(0, .ref (x_b G + 168))]) rfl ?_
  intro p e s m args below meth c C hr hlocks
  refine a_aload_n C dX3_parse_0 0 rfl ?_
  refine a_iconst C dX3_parse_1 (v := 0) (by decide) ?_
  refine a_putI C (k := 168) iX3 tyX3_ok nmX3 x_k168 rfl (j := 2) rfl (by decide) (by decide +kernel) rfl (ty := .int) (by decide +kernel) rfl rfl dX3_parse_2 ?_
  refine a_aload_n C dX3_parse_5 0 rfl ?_
  refine a_iconst C dX3_parse_6 (v := 0) (by decide) ?_
  refine a_putI C (k := 168) iX3 tyX3_ok nmX3 x_k168 rfl (j := 3) rfl (by decide) (by decide +kernel) rfl (ty := .int) (by decide +kernel) rfl rfl dX3_parse_7 ?_
  refine a_iconst C dX3_parse_10 (v := 0) (by decide) ?_
  refine a_istore_n C dX3_parse_11 (by decide) (lst2 := [(1, .int 0), (0, .ref (x_b G + 168))]) rfl ?_
  have L12 : ∀ (j i : Nat), i ≤ k9 → k9 < i + j → Ab G p l e (x_rm 8 0 0) s m args below meth c 2 0 0 (MQ below (x_Q G (some (.int 0)) (t_rf (t_pa d tx L k9) tx L (tp_P tx L k9) k9)) args s 0 0 (x_A G)) 12 [(1, .int (nI i)), (0, .ref (x_b G + 168))] [] (t_pa d tx L i) := by
    intro j
    induction j with
    | zero => intro i h1 h2; exact absurd h2 (by omega)
    | succ j ih =>
      intro i hi hj 
      refine a_iload_n C dX3_parse_12 0 rfl ?_
      refine a_bipush C dX3_parse_13 (v := 15) (by decide) ?_
      refine a_icmp_ge C dX3_parse_15 (tgt := 65) (by decide) (fun h => absurd h (nI_ge (b := 15) (by omega) (by omega))) (fun h15 => ?_)
      refine a_aload_n C dX3_parse_18 1 rfl ?_
      refine a_iload_n C dX3_parse_19 0 rfl ?_
      have hpl := tp_P_le i (fun j hj => hgood j (by omega))
      rcases Nat.lt_or_ge i k9 with hik | hik
      · skip
        obtain ⟨hco, h59⟩ := hgood i hik
        have hce := tp_ce_le hpl hco
        refine a_callV C (k := 168) (As := [.int (nI i)]) (rest := []) (c_T_readCommand_t l G (t_pa d tx L i) tx L hL (t_pa_1 (by omega) (by omega) i |>.trans hln) (fun j hj => by rw [t_pa_out (by omega) (by omega)]; exact htx j hj) ht7 (tp_P tx L i) (t_pa_2 i) hpl i (by omega) (tp_vb tx L (tp_P tx L i)) hco.1 rfl hco.2) (cwV 1 C.1.2.2.2.2 gX3_parse_X3_readCommand rfl rfl rfl (by decide +kernel) ⟨Nat.le_of_ble_eq_true rfl, Nat.le_of_ble_eq_true rfl⟩) x_k168 (q := (RX3, TX3, 7)) rfl rfl rfl rfl (Nat.le_of_ble_eq_true rfl) dX3_parse_20 ⟨Nat.le_of_ble_eq_true rfl, Nat.le_of_ble_eq_true rfl⟩ ?_
        refine a_toD (d2 := t_rc (t_pa d tx L i) tx L (tp_P tx L i) i) rfl ?_
        have hlt := tp_c_lt h59
        refine a_if_ne C dX3_parse_23 (tgt := 28) (by decide) (fun _ => ?_) (fun h => absurd h (by decide))
        refine a_aload_n C dX3_parse_28 1 rfl ?_
        refine a_iload_n C dX3_parse_29 0 rfl ?_
        refine a_iconst C dX3_parse_30 (v := 1) (by decide) ?_
        refine a_iadd C dX3_parse_31 ?_
        refine a_top (y := (nI (i + 1))) (nI_1 i) ?_
        refine a_putI C (k := 168) iX3 tyX3_ok nmX3 x_k168 rfl (j := 3) rfl (by decide) (by decide +kernel) rfl (ty := .int) (by decide +kernel) rfl rfl dX3_parse_32 ?_
        refine a_aload_n C dX3_parse_35 1 rfl ?_
        refine a_getI C (k := 168) iX3 x_k168 rfl (j := 2) rfl (by decide) (by decide +kernel) dX3_parse_36 ?_
        refine a_top (y := ((t_rc (t_pa d tx L i) tx L (tp_P tx L i) i) 168 2)) (by first | rw [x_p_row (by omega)] | rfl) ?_
        refine a_top (y := (nI (tp_ce tx L (tp_P tx L i)))) (t_rc_2 hco) ?_
        refine a_aload_n C dX3_parse_39 1 rfl ?_
        refine a_getI C (k := 168) iX3 x_k168 rfl (j := 1) rfl (by decide) (by decide +kernel) dX3_parse_40 ?_
        refine a_top (y := ((t_rc (t_pa d tx L i) tx L (tp_P tx L i) i) 168 1)) (by first | rw [x_p_row (by omega)] | rfl) ?_
        refine a_top (y := (nI L)) ((t_rx_1 (by omega)).trans ((t_pa_1 (by omega) (by omega) i).trans hln)) ?_
        refine a_icmp_lt C dX3_parse_43 (tgt := 48) (by decide) (fun h43 => ?_) (fun h => False.elim (h (nI_lt hlt (by omega))))
        refine a_aload_n C dX3_parse_48 1 rfl ?_
        refine a_bipush C dX3_parse_49 (v := 59) (by decide) ?_
        refine a_callV C (k := 168) (As := [.int 59]) (rest := []) (c_T_readCharacter_t l G (x_p (t_rc (t_pa d tx L i) tx L (tp_P tx L i) i) 168 3 (nI (i + 1))) tx L hL (by rw [x_p_row (by omega)]; exact (t_rx_1 (by omega)).trans ((t_pa_1 (by omega) (by omega) i).trans hln)) (fun j hj => by rw [x_p_ne (by omega)]; exact (congrFun (t_rx_out (by omega) (by omega)) j).trans ((congrFun (t_pa_out (by omega) (by omega) i) j).trans (htx j hj))) ht7 (tp_ce tx L (tp_P tx L i)) (by rw [x_p_row (by omega)]; exact t_rc_2 hco) hce 59 (by omega) h59) (cwV 1 C.1.2.2.2.2 gX3_parse_X3_readCharacter rfl rfl rfl (by decide +kernel) ⟨Nat.le_of_ble_eq_true rfl, Nat.le_of_ble_eq_true rfl⟩) x_k168 (q := (RX3, TX3, 7)) rfl rfl rfl rfl (Nat.le_of_ble_eq_true rfl) dX3_parse_51 ⟨Nat.le_of_ble_eq_true rfl, Nat.le_of_ble_eq_true rfl⟩ ?_
        refine a_if_ne C dX3_parse_54 (tgt := 59) (by decide) (fun _ => ?_) (fun h => absurd h (by decide))
        refine a_iinc C dX3_parse_59 0 rfl (v := (nI (i + 1))) (x_inc i) (by decide) (lst2 := [(1, .int (nI (i + 1))), (0, .ref (x_b G + 168))]) rfl ?_
        refine a_goto C dX3_parse_62 (tgt := 12) (by decide) ?_
        refine a_sub (lst2 := [(1, .int (nI (i + 1))), (0, .ref (x_b G + 168))]) [0, 1] rfl ?_
        refine a_to (lst2 := [(1, .int (nI ((i + 1)))), (0, .ref (x_b G + 168))]) (st2 := []) (d2 := t_pa d tx L ((i + 1))) rfl rfl rfl ?_
        exact ih (i + 1) (by omega) (by omega) 
      · skip
        have e9 : k9 = i := by omega
        subst e9
        by_cases hvb : tp_vb tx L (tp_P tx L k9) < 13
        · skip
          have haf : ¬ tp_af tx L (tp_vb tx L (tp_P tx L k9)) ((tp_P tx L k9) + x_wL (tp_vb tx L (tp_P tx L k9))) (tp_vn (tp_vb tx L (tp_P tx L k9))) = tp_vn (tp_vb tx L (tp_P tx L k9)) := fun z => hbad ⟨hvb, z⟩
          refine a_callV C (k := 168) (As := [.int (nI k9)]) (rest := []) (c_T_readCommand_f l G (t_pa d tx L k9) tx L hL (t_pa_1 (by omega) (by omega) k9 |>.trans hln) (fun j hj => by rw [t_pa_out (by omega) (by omega)]; exact htx j hj) ht7 (tp_P tx L k9) (t_pa_2 k9) hpl k9 (by omega) (tp_vb tx L (tp_P tx L k9)) hvb rfl haf) (cwV 1 C.1.2.2.2.2 gX3_parse_X3_readCommand rfl rfl rfl (by decide +kernel) ⟨Nat.le_of_ble_eq_true rfl, Nat.le_of_ble_eq_true rfl⟩) x_k168 (q := (RX3, TX3, 7)) rfl rfl rfl rfl (Nat.le_of_ble_eq_true rfl) dX3_parse_20 ⟨Nat.le_of_ble_eq_true rfl, Nat.le_of_ble_eq_true rfl⟩ ?_
          refine a_toD (d2 := t_rx (t_pa d tx L k9) tx L (tp_P tx L k9) k9 (tp_af9 tx L (tp_P tx L k9)) (tp_af9 tx L (tp_P tx L k9) + 1)) rfl ?_
          refine a_if_ne C dX3_parse_23 (tgt := 28) (by decide) (fun h => absurd h (by decide)) (fun _ => ?_)
          refine a_iconst C dX3_parse_26 (v := 0) (by decide) ?_
          exact a_zret C hlocks hr rfl dX3_parse_27 rfl (by unfold t_rf; rw [if_pos hvb])
        · skip
          refine a_callV C (k := 168) (As := [.int (nI k9)]) (rest := []) (c_T_readCommand_0 l G (t_pa d tx L k9) tx L hL (t_pa_1 (by omega) (by omega) k9 |>.trans hln) (fun j hj => by rw [t_pa_out (by omega) (by omega)]; exact htx j hj) ht7 (tp_P tx L k9) (t_pa_2 k9) hpl k9 (by omega) (x_13 (tp_vb_le tx L (tp_P tx L k9)) hvb)) (cwV 1 C.1.2.2.2.2 gX3_parse_X3_readCommand rfl rfl rfl (by decide +kernel) ⟨Nat.le_of_ble_eq_true rfl, Nat.le_of_ble_eq_true rfl⟩) x_k168 (q := (RX3, TX3, 7)) rfl rfl rfl rfl (Nat.le_of_ble_eq_true rfl) dX3_parse_20 ⟨Nat.le_of_ble_eq_true rfl, Nat.le_of_ble_eq_true rfl⟩ ?_
          refine a_if_ne C dX3_parse_23 (tgt := 28) (by decide) (fun h => absurd h (by decide)) (fun _ => ?_)
          refine a_iconst C dX3_parse_26 (v := 0) (by decide) ?_
          exact a_zret C hlocks hr rfl dX3_parse_27 rfl (by unfold t_rf; rw [if_neg hvb])
  refine a_sub (lst2 := [(1, .int 0), (0, .ref (x_b G + 168))]) [0, 1] rfl ?_
  exact L12 (k9 + 1) 0 (by omega) (by omega) 

set_option maxHeartbeats 1000000 in
set_option maxRecDepth 100000 in
theorem c_T_parse_bad2 (l : Launch) (G : xG) (d : xd) (tx : Nat → Nat) (L : Nat) (hL : L ≤ 60) (hln : d 168 1 = nI L) (htx : ∀ j, j < L → d 169 j = nI (tx j)) (ht7 : ∀ j, j < L → tx j < 128) (k9 : Nat) (hgood : ∀ j, j < k9 → tp_co tx L (tp_P tx L j) ∧ tp_c tx L (tp_ce tx L (tp_P tx L j)) 59 = true) (hk9 : k9 < 15) (hco : tp_co tx L (tp_P tx L k9)) (hlt : tp_ce tx L (tp_P tx L k9) < L) (hno : ¬ tp_c tx L (tp_ce tx L (tp_P tx L k9)) 59 = true) : x_M G l yX3_parse wsX3_parse 8 0 0 [.ref (x_b G + 168)] d (some (.int 0)) (x_p (t_rc (t_pa d tx L k9) tx L (tp_P tx L k9) k9) 168 3 (nI (k9 + 1))) := by
  have iX3 : ∀ w ∈ u_ws RX3 TX3 7, w ∈ wsX3_parse := by decide +kernel
  refine x_start (cc := cX3_parse) (maxL := 2) (ret := (some .boolean)) (own := RX3) (by decide) rfl rfl (Nat.le_of_ble_eq_true rfl) (lst := [(0, .ref (x_b G + 168))]) rfl ?_
  intro p e s m args below meth c C hr hlocks
  refine a_aload_n C dX3_parse_0 0 rfl ?_
  refine a_iconst C dX3_parse_1 (v := 0) (by decide) ?_
  refine a_putI C (k := 168) iX3 tyX3_ok nmX3 x_k168 rfl (j := 2) rfl (by decide) (by decide +kernel) rfl (ty := .int) (by decide +kernel) rfl rfl dX3_parse_2 ?_
  refine a_aload_n C dX3_parse_5 0 rfl ?_
  refine a_iconst C dX3_parse_6 (v := 0) (by decide) ?_
  refine a_putI C (k := 168) iX3 tyX3_ok nmX3 x_k168 rfl (j := 3) rfl (by decide) (by decide +kernel) rfl (ty := .int) (by decide +kernel) rfl rfl dX3_parse_7 ?_
  refine a_iconst C dX3_parse_10 (v := 0) (by decide) ?_
  refine a_istore_n C dX3_parse_11 (by decide) (lst2 := [(1, .int 0), (0, .ref (x_b G + 168))]) rfl ?_
  have L12 : ∀ (j i : Nat), i ≤ k9 → k9 < i + j → Ab G p l e (x_rm 8 0 0) s m args below meth c 2 0 0 (MQ below (x_Q G (some (.int 0)) (x_p (t_rc (t_pa d tx L k9) tx L (tp_P tx L k9) k9) 168 3 (nI (k9 + 1)))) args s 0 0 (x_A G)) 12 [(1, .int (nI i)), (0, .ref (x_b G + 168))] [] (t_pa d tx L i) := by
    intro j
    induction j with
    | zero => intro i h1 h2; exact absurd h2 (by omega)
    | succ j ih =>
      intro i hi hj 
      refine a_iload_n C dX3_parse_12 0 rfl ?_
      refine a_bipush C dX3_parse_13 (v := 15) (by decide) ?_
      refine a_icmp_ge C dX3_parse_15 (tgt := 65) (by decide) (fun h => absurd h (nI_ge (b := 15) (by omega) (by omega))) (fun h15 => ?_)
      refine a_aload_n C dX3_parse_18 1 rfl ?_
      refine a_iload_n C dX3_parse_19 0 rfl ?_
      have hpl := tp_P_le i (fun j hj => hgood j (by omega))
      rcases Nat.lt_or_ge i k9 with hik | hik
      · skip
        obtain ⟨hco, h59⟩ := hgood i hik
        have hce := tp_ce_le hpl hco
        refine a_callV C (k := 168) (As := [.int (nI i)]) (rest := []) (c_T_readCommand_t l G (t_pa d tx L i) tx L hL (t_pa_1 (by omega) (by omega) i |>.trans hln) (fun j hj => by rw [t_pa_out (by omega) (by omega)]; exact htx j hj) ht7 (tp_P tx L i) (t_pa_2 i) hpl i (by omega) (tp_vb tx L (tp_P tx L i)) hco.1 rfl hco.2) (cwV 1 C.1.2.2.2.2 gX3_parse_X3_readCommand rfl rfl rfl (by decide +kernel) ⟨Nat.le_of_ble_eq_true rfl, Nat.le_of_ble_eq_true rfl⟩) x_k168 (q := (RX3, TX3, 7)) rfl rfl rfl rfl (Nat.le_of_ble_eq_true rfl) dX3_parse_20 ⟨Nat.le_of_ble_eq_true rfl, Nat.le_of_ble_eq_true rfl⟩ ?_
        refine a_toD (d2 := t_rc (t_pa d tx L i) tx L (tp_P tx L i) i) rfl ?_
        have hlt := tp_c_lt h59
        refine a_if_ne C dX3_parse_23 (tgt := 28) (by decide) (fun _ => ?_) (fun h => absurd h (by decide))
        refine a_aload_n C dX3_parse_28 1 rfl ?_
        refine a_iload_n C dX3_parse_29 0 rfl ?_
        refine a_iconst C dX3_parse_30 (v := 1) (by decide) ?_
        refine a_iadd C dX3_parse_31 ?_
        refine a_top (y := (nI (i + 1))) (nI_1 i) ?_
        refine a_putI C (k := 168) iX3 tyX3_ok nmX3 x_k168 rfl (j := 3) rfl (by decide) (by decide +kernel) rfl (ty := .int) (by decide +kernel) rfl rfl dX3_parse_32 ?_
        refine a_aload_n C dX3_parse_35 1 rfl ?_
        refine a_getI C (k := 168) iX3 x_k168 rfl (j := 2) rfl (by decide) (by decide +kernel) dX3_parse_36 ?_
        refine a_top (y := ((t_rc (t_pa d tx L i) tx L (tp_P tx L i) i) 168 2)) (by first | rw [x_p_row (by omega)] | rfl) ?_
        refine a_top (y := (nI (tp_ce tx L (tp_P tx L i)))) (t_rc_2 hco) ?_
        refine a_aload_n C dX3_parse_39 1 rfl ?_
        refine a_getI C (k := 168) iX3 x_k168 rfl (j := 1) rfl (by decide) (by decide +kernel) dX3_parse_40 ?_
        refine a_top (y := ((t_rc (t_pa d tx L i) tx L (tp_P tx L i) i) 168 1)) (by first | rw [x_p_row (by omega)] | rfl) ?_
        refine a_top (y := (nI L)) ((t_rx_1 (by omega)).trans ((t_pa_1 (by omega) (by omega) i).trans hln)) ?_
        refine a_icmp_lt C dX3_parse_43 (tgt := 48) (by decide) (fun h43 => ?_) (fun h => False.elim (h (nI_lt hlt (by omega))))
        refine a_aload_n C dX3_parse_48 1 rfl ?_
        refine a_bipush C dX3_parse_49 (v := 59) (by decide) ?_
        refine a_callV C (k := 168) (As := [.int 59]) (rest := []) (c_T_readCharacter_t l G (x_p (t_rc (t_pa d tx L i) tx L (tp_P tx L i) i) 168 3 (nI (i + 1))) tx L hL (by rw [x_p_row (by omega)]; exact (t_rx_1 (by omega)).trans ((t_pa_1 (by omega) (by omega) i).trans hln)) (fun j hj => by rw [x_p_ne (by omega)]; exact (congrFun (t_rx_out (by omega) (by omega)) j).trans ((congrFun (t_pa_out (by omega) (by omega) i) j).trans (htx j hj))) ht7 (tp_ce tx L (tp_P tx L i)) (by rw [x_p_row (by omega)]; exact t_rc_2 hco) hce 59 (by omega) h59) (cwV 1 C.1.2.2.2.2 gX3_parse_X3_readCharacter rfl rfl rfl (by decide +kernel) ⟨Nat.le_of_ble_eq_true rfl, Nat.le_of_ble_eq_true rfl⟩) x_k168 (q := (RX3, TX3, 7)) rfl rfl rfl rfl (Nat.le_of_ble_eq_true rfl) dX3_parse_51 ⟨Nat.le_of_ble_eq_true rfl, Nat.le_of_ble_eq_true rfl⟩ ?_
        refine a_if_ne C dX3_parse_54 (tgt := 59) (by decide) (fun _ => ?_) (fun h => absurd h (by decide))
        refine a_iinc C dX3_parse_59 0 rfl (v := (nI (i + 1))) (x_inc i) (by decide) (lst2 := [(1, .int (nI (i + 1))), (0, .ref (x_b G + 168))]) rfl ?_
        refine a_goto C dX3_parse_62 (tgt := 12) (by decide) ?_
        refine a_sub (lst2 := [(1, .int (nI (i + 1))), (0, .ref (x_b G + 168))]) [0, 1] rfl ?_
        refine a_to (lst2 := [(1, .int (nI ((i + 1)))), (0, .ref (x_b G + 168))]) (st2 := []) (d2 := t_pa d tx L ((i + 1))) rfl rfl rfl ?_
        exact ih (i + 1) (by omega) (by omega) 
      · skip
        have e9 : k9 = i := by omega
        subst e9
        have hce := tp_ce_le hpl hco
        refine a_callV C (k := 168) (As := [.int (nI k9)]) (rest := []) (c_T_readCommand_t l G (t_pa d tx L k9) tx L hL (t_pa_1 (by omega) (by omega) k9 |>.trans hln) (fun j hj => by rw [t_pa_out (by omega) (by omega)]; exact htx j hj) ht7 (tp_P tx L k9) (t_pa_2 k9) hpl k9 (by omega) (tp_vb tx L (tp_P tx L k9)) hco.1 rfl hco.2) (cwV 1 C.1.2.2.2.2 gX3_parse_X3_readCommand rfl rfl rfl (by decide +kernel) ⟨Nat.le_of_ble_eq_true rfl, Nat.le_of_ble_eq_true rfl⟩) x_k168 (q := (RX3, TX3, 7)) rfl rfl rfl rfl (Nat.le_of_ble_eq_true rfl) dX3_parse_20 ⟨Nat.le_of_ble_eq_true rfl, Nat.le_of_ble_eq_true rfl⟩ ?_
        refine a_toD (d2 := t_rc (t_pa d tx L k9) tx L (tp_P tx L k9) k9) rfl ?_
        refine a_if_ne C dX3_parse_23 (tgt := 28) (by decide) (fun _ => ?_) (fun h => absurd h (by decide))
        refine a_aload_n C dX3_parse_28 1 rfl ?_
        refine a_iload_n C dX3_parse_29 0 rfl ?_
        refine a_iconst C dX3_parse_30 (v := 1) (by decide) ?_
        refine a_iadd C dX3_parse_31 ?_
        refine a_top (y := (nI (k9 + 1))) (nI_1 k9) ?_
        refine a_putI C (k := 168) iX3 tyX3_ok nmX3 x_k168 rfl (j := 3) rfl (by decide) (by decide +kernel) rfl (ty := .int) (by decide +kernel) rfl rfl dX3_parse_32 ?_
        refine a_aload_n C dX3_parse_35 1 rfl ?_
        refine a_getI C (k := 168) iX3 x_k168 rfl (j := 2) rfl (by decide) (by decide +kernel) dX3_parse_36 ?_
        refine a_top (y := ((t_rc (t_pa d tx L k9) tx L (tp_P tx L k9) k9) 168 2)) (by first | rw [x_p_row (by omega)] | rfl) ?_
        refine a_top (y := (nI (tp_ce tx L (tp_P tx L k9)))) (t_rc_2 hco) ?_
        refine a_aload_n C dX3_parse_39 1 rfl ?_
        refine a_getI C (k := 168) iX3 x_k168 rfl (j := 1) rfl (by decide) (by decide +kernel) dX3_parse_40 ?_
        refine a_top (y := ((t_rc (t_pa d tx L k9) tx L (tp_P tx L k9) k9) 168 1)) (by first | rw [x_p_row (by omega)] | rfl) ?_
        refine a_top (y := (nI L)) ((t_rx_1 (by omega)).trans ((t_pa_1 (by omega) (by omega) k9).trans hln)) ?_
        refine a_icmp_lt C dX3_parse_43 (tgt := 48) (by decide) (fun h43 => ?_) (fun h => False.elim (h (nI_lt hlt (by omega))))
        refine a_aload_n C dX3_parse_48 1 rfl ?_
        refine a_bipush C dX3_parse_49 (v := 59) (by decide) ?_
        refine a_callV C (k := 168) (As := [.int 59]) (rest := []) (c_T_readCharacter_f l G (x_p (t_rc (t_pa d tx L k9) tx L (tp_P tx L k9) k9) 168 3 (nI (k9 + 1))) tx L hL (by rw [x_p_row (by omega)]; exact (t_rx_1 (by omega)).trans ((t_pa_1 (by omega) (by omega) k9).trans hln)) (fun j hj => by rw [x_p_ne (by omega)]; exact (congrFun (t_rx_out (by omega) (by omega)) j).trans ((congrFun (t_pa_out (by omega) (by omega) k9) j).trans (htx j hj))) ht7 (tp_ce tx L (tp_P tx L k9)) (by rw [x_p_row (by omega)]; exact t_rc_2 hco) hce 59 (by omega) hno) (cwV 1 C.1.2.2.2.2 gX3_parse_X3_readCharacter rfl rfl rfl (by decide +kernel) ⟨Nat.le_of_ble_eq_true rfl, Nat.le_of_ble_eq_true rfl⟩) x_k168 (q := (RX3, TX3, 7)) rfl rfl rfl rfl (Nat.le_of_ble_eq_true rfl) dX3_parse_51 ⟨Nat.le_of_ble_eq_true rfl, Nat.le_of_ble_eq_true rfl⟩ ?_
        refine a_if_ne C dX3_parse_54 (tgt := 59) (by decide) (fun h => absurd h (by decide)) (fun _ => ?_)
        refine a_iconst C dX3_parse_57 (v := 0) (by decide) ?_
        exact a_zret C hlocks hr rfl dX3_parse_58 rfl rfl
  refine a_sub (lst2 := [(1, .int 0), (0, .ref (x_b G + 168))]) [0, 1] rfl ?_
  exact L12 (k9 + 1) 0 (by omega) (by omega) 

set_option maxHeartbeats 1000000 in
set_option maxRecDepth 100000 in
theorem c_T_parse_full (l : Launch) (G : xG) (d : xd) (tx : Nat → Nat) (L : Nat) (hL : L ≤ 60) (hln : d 168 1 = nI L) (htx : ∀ j, j < L → d 169 j = nI (tx j)) (ht7 : ∀ j, j < L → tx j < 128) (hgood : ∀ j, j < 15 → tp_co tx L (tp_P tx L j) ∧ tp_c tx L (tp_ce tx L (tp_P tx L j)) 59 = true)  : x_M G l yX3_parse wsX3_parse 8 0 0 [.ref (x_b G + 168)] d (some (.int 0)) (t_pa d tx L 15) := by
  have iX3 : ∀ w ∈ u_ws RX3 TX3 7, w ∈ wsX3_parse := by decide +kernel
  refine x_start (cc := cX3_parse) (maxL := 2) (ret := (some .boolean)) (own := RX3) (by decide) rfl rfl (Nat.le_of_ble_eq_true rfl) (lst := [(0, .ref (x_b G + 168))]) rfl ?_
  intro p e s m args below meth c C hr hlocks
  refine a_aload_n C dX3_parse_0 0 rfl ?_
  refine a_iconst C dX3_parse_1 (v := 0) (by decide) ?_
  refine a_putI C (k := 168) iX3 tyX3_ok nmX3 x_k168 rfl (j := 2) rfl (by decide) (by decide +kernel) rfl (ty := .int) (by decide +kernel) rfl rfl dX3_parse_2 ?_
  refine a_aload_n C dX3_parse_5 0 rfl ?_
  refine a_iconst C dX3_parse_6 (v := 0) (by decide) ?_
  refine a_putI C (k := 168) iX3 tyX3_ok nmX3 x_k168 rfl (j := 3) rfl (by decide) (by decide +kernel) rfl (ty := .int) (by decide +kernel) rfl rfl dX3_parse_7 ?_
  refine a_iconst C dX3_parse_10 (v := 0) (by decide) ?_
  refine a_istore_n C dX3_parse_11 (by decide) (lst2 := [(1, .int 0), (0, .ref (x_b G + 168))]) rfl ?_
  have L12 : ∀ (j i : Nat), i ≤ 15 → 15 < i + j → Ab G p l e (x_rm 8 0 0) s m args below meth c 2 0 0 (MQ below (x_Q G (some (.int 0)) (t_pa d tx L 15)) args s 0 0 (x_A G)) 12 [(1, .int (nI i)), (0, .ref (x_b G + 168))] [] (t_pa d tx L i) := by
    intro j
    induction j with
    | zero => intro i h1 h2; exact absurd h2 (by omega)
    | succ j ih =>
      intro i hi hj 
      refine a_iload_n C dX3_parse_12 0 rfl ?_
      refine a_bipush C dX3_parse_13 (v := 15) (by decide) ?_
      refine a_icmp_ge C dX3_parse_15 (tgt := 65) (by decide) (fun h15 => ?_) (fun h15 => ?_)
      · skip
        have e := x_ge (n := 15) h15 hi (by omega)
        have e9 := e.symm
        subst e9
        clear e
        refine a_iconst C dX3_parse_65 (v := 0) (by decide) ?_
        exact a_zret C hlocks hr rfl dX3_parse_66 rfl rfl
      · skip
        have hlt9 := x_nge (n := 15) h15 hi
        refine a_aload_n C dX3_parse_18 1 rfl ?_
        refine a_iload_n C dX3_parse_19 0 rfl ?_
        have hpl := tp_P_le i (fun j hj => hgood j (by omega))
        obtain ⟨hco, h59⟩ := hgood i hlt9
        have hce := tp_ce_le hpl hco
        refine a_callV C (k := 168) (As := [.int (nI i)]) (rest := []) (c_T_readCommand_t l G (t_pa d tx L i) tx L hL (t_pa_1 (by omega) (by omega) i |>.trans hln) (fun j hj => by rw [t_pa_out (by omega) (by omega)]; exact htx j hj) ht7 (tp_P tx L i) (t_pa_2 i) hpl i (by omega) (tp_vb tx L (tp_P tx L i)) hco.1 rfl hco.2) (cwV 1 C.1.2.2.2.2 gX3_parse_X3_readCommand rfl rfl rfl (by decide +kernel) ⟨Nat.le_of_ble_eq_true rfl, Nat.le_of_ble_eq_true rfl⟩) x_k168 (q := (RX3, TX3, 7)) rfl rfl rfl rfl (Nat.le_of_ble_eq_true rfl) dX3_parse_20 ⟨Nat.le_of_ble_eq_true rfl, Nat.le_of_ble_eq_true rfl⟩ ?_
        refine a_toD (d2 := t_rc (t_pa d tx L i) tx L (tp_P tx L i) i) rfl ?_
        have hlt := tp_c_lt h59
        refine a_if_ne C dX3_parse_23 (tgt := 28) (by decide) (fun _ => ?_) (fun h => absurd h (by decide))
        refine a_aload_n C dX3_parse_28 1 rfl ?_
        refine a_iload_n C dX3_parse_29 0 rfl ?_
        refine a_iconst C dX3_parse_30 (v := 1) (by decide) ?_
        refine a_iadd C dX3_parse_31 ?_
        refine a_top (y := (nI (i + 1))) (nI_1 i) ?_
        refine a_putI C (k := 168) iX3 tyX3_ok nmX3 x_k168 rfl (j := 3) rfl (by decide) (by decide +kernel) rfl (ty := .int) (by decide +kernel) rfl rfl dX3_parse_32 ?_
        refine a_aload_n C dX3_parse_35 1 rfl ?_
        refine a_getI C (k := 168) iX3 x_k168 rfl (j := 2) rfl (by decide) (by decide +kernel) dX3_parse_36 ?_
        refine a_top (y := ((t_rc (t_pa d tx L i) tx L (tp_P tx L i) i) 168 2)) (by first | rw [x_p_row (by omega)] | rfl) ?_
        refine a_top (y := (nI (tp_ce tx L (tp_P tx L i)))) (t_rc_2 hco) ?_
        refine a_aload_n C dX3_parse_39 1 rfl ?_
        refine a_getI C (k := 168) iX3 x_k168 rfl (j := 1) rfl (by decide) (by decide +kernel) dX3_parse_40 ?_
        refine a_top (y := ((t_rc (t_pa d tx L i) tx L (tp_P tx L i) i) 168 1)) (by first | rw [x_p_row (by omega)] | rfl) ?_
        refine a_top (y := (nI L)) ((t_rx_1 (by omega)).trans ((t_pa_1 (by omega) (by omega) i).trans hln)) ?_
        refine a_icmp_lt C dX3_parse_43 (tgt := 48) (by decide) (fun h43 => ?_) (fun h => False.elim (h (nI_lt hlt (by omega))))
        refine a_aload_n C dX3_parse_48 1 rfl ?_
        refine a_bipush C dX3_parse_49 (v := 59) (by decide) ?_
        refine a_callV C (k := 168) (As := [.int 59]) (rest := []) (c_T_readCharacter_t l G (x_p (t_rc (t_pa d tx L i) tx L (tp_P tx L i) i) 168 3 (nI (i + 1))) tx L hL (by rw [x_p_row (by omega)]; exact (t_rx_1 (by omega)).trans ((t_pa_1 (by omega) (by omega) i).trans hln)) (fun j hj => by rw [x_p_ne (by omega)]; exact (congrFun (t_rx_out (by omega) (by omega)) j).trans ((congrFun (t_pa_out (by omega) (by omega) i) j).trans (htx j hj))) ht7 (tp_ce tx L (tp_P tx L i)) (by rw [x_p_row (by omega)]; exact t_rc_2 hco) hce 59 (by omega) h59) (cwV 1 C.1.2.2.2.2 gX3_parse_X3_readCharacter rfl rfl rfl (by decide +kernel) ⟨Nat.le_of_ble_eq_true rfl, Nat.le_of_ble_eq_true rfl⟩) x_k168 (q := (RX3, TX3, 7)) rfl rfl rfl rfl (Nat.le_of_ble_eq_true rfl) dX3_parse_51 ⟨Nat.le_of_ble_eq_true rfl, Nat.le_of_ble_eq_true rfl⟩ ?_
        refine a_if_ne C dX3_parse_54 (tgt := 59) (by decide) (fun _ => ?_) (fun h => absurd h (by decide))
        refine a_iinc C dX3_parse_59 0 rfl (v := (nI (i + 1))) (x_inc i) (by decide) (lst2 := [(1, .int (nI (i + 1))), (0, .ref (x_b G + 168))]) rfl ?_
        refine a_goto C dX3_parse_62 (tgt := 12) (by decide) ?_
        refine a_sub (lst2 := [(1, .int (nI (i + 1))), (0, .ref (x_b G + 168))]) [0, 1] rfl ?_
        refine a_to (lst2 := [(1, .int (nI ((i + 1)))), (0, .ref (x_b G + 168))]) (st2 := []) (d2 := t_pa d tx L ((i + 1))) rfl rfl rfl ?_
        exact ih (i + 1) (by omega) (by omega) 
  refine a_sub (lst2 := [(1, .int 0), (0, .ref (x_b G + 168))]) [0, 1] rfl ?_
  exact L12 (15 + 1) 0 (by omega) (by omega) 

set_option maxHeartbeats 1000000 in
set_option maxRecDepth 100000 in
theorem c_T_isFull_t (l : Launch) (G : xG) (d : xd) (hk : d 168 1 = 60) : x_M G l yX3_isFull wsX3_isFull 1 0 0 [.ref (x_b G + 168)] d (some (.int 1)) d := by
  have iX3 : ∀ w ∈ u_ws RX3 TX3 7, w ∈ wsX3_isFull := by decide +kernel
  refine x_start (cc := cX3_isFull) (maxL := 1) (ret := (some .boolean)) (own := RX3) (by decide) rfl rfl (Nat.le_of_ble_eq_true rfl) (lst := [(0, .ref (x_b G + 168))]) rfl ?_
  intro p e s m args below meth c C hr hlocks
  refine a_aload_n C dX3_isFull_0 0 rfl ?_
  refine a_getI C (k := 168) iX3 x_k168 rfl (j := 1) rfl (by decide) (by decide +kernel) dX3_isFull_1 ?_
  refine a_top (y := 60) hk ?_
  refine a_bipush C dX3_isFull_4 (v := 60) (by decide) ?_
  refine a_icmp_lt C dX3_isFull_6 (tgt := 13) (by decide) (fun h => absurd h (by decide)) (fun _ => ?_)
  refine a_iconst C dX3_isFull_9 (v := 1) (by decide) ?_
  refine a_goto C dX3_isFull_10 (tgt := 14) (by decide) ?_
  exact a_zret C hlocks hr rfl dX3_isFull_14 rfl rfl

set_option maxHeartbeats 1000000 in
set_option maxRecDepth 100000 in
theorem c_T_isFull_f (l : Launch) (G : xG) (d : xd) (k : Nat) (hk : d 168 1 = nI k) (hk6 : k < 60) : x_M G l yX3_isFull wsX3_isFull 1 0 0 [.ref (x_b G + 168)] d (some (.int 0)) d := by
  have iX3 : ∀ w ∈ u_ws RX3 TX3 7, w ∈ wsX3_isFull := by decide +kernel
  refine x_start (cc := cX3_isFull) (maxL := 1) (ret := (some .boolean)) (own := RX3) (by decide) rfl rfl (Nat.le_of_ble_eq_true rfl) (lst := [(0, .ref (x_b G + 168))]) rfl ?_
  intro p e s m args below meth c C hr hlocks
  refine a_aload_n C dX3_isFull_0 0 rfl ?_
  refine a_getI C (k := 168) iX3 x_k168 rfl (j := 1) rfl (by decide) (by decide +kernel) dX3_isFull_1 ?_
  refine a_top (y := (nI k)) hk ?_
  refine a_bipush C dX3_isFull_4 (v := 60) (by decide) ?_
  refine a_icmp_lt C dX3_isFull_6 (tgt := 13) (by decide) (fun h6 => ?_) (fun h => False.elim (h (nI_lt (b := 60) hk6 (by omega))))
  refine a_iconst C dX3_isFull_13 (v := 0) (by decide) ?_
  exact a_zret C hlocks hr rfl dX3_isFull_14 rfl rfl

set_option maxHeartbeats 1000000 in
set_option maxRecDepth 100000 in
theorem c_T_append (l : Launch) (G : xG) (d : xd) (k : Nat) (hk : d 168 1 = nI k) (hk6 : k < 60) (a : Nat) (ha : a < 65536) : x_M G l yX3_append wsX3_append 1 0 0 [.ref (x_b G + 168), .int (nI a)] d (some (.int (nI (k + 1)))) (x_p (x_p d 169 k (nI a)) 168 1 (nI (k + 1))) := by
  have iX3 : ∀ w ∈ u_ws RX3 TX3 7, w ∈ wsX3_append := by decide +kernel
  refine x_start (cc := cX3_append) (maxL := 2) (ret := (some .int)) (own := RX3) (by decide) rfl rfl (Nat.le_of_ble_eq_true rfl) (lst := [(0, .ref (x_b G + 168)), (1, .int (nI a))]) rfl ?_
  intro p e s m args below meth c C hr hlocks
  refine a_aload_n C dX3_append_0 0 rfl ?_
  refine a_getR C (k := 168) iX3 x_k168 rfl (j := 0) rfl (by decide) (by decide +kernel) dX3_append_1 ?_
  refine a_aload_n C dX3_append_4 0 rfl ?_
  refine a_getI C (k := 168) iX3 x_k168 rfl (j := 1) rfl (by decide) (by decide +kernel) dX3_append_5 ?_
  refine a_top (y := (nI k)) hk ?_
  refine a_iload_n C dX3_append_8 1 rfl ?_
  refine a_castN C (k := 169) x_k169 (i := k) rfl (by omega) (by first | decide | omega) (v := (nI a)) (x_chn ha) dX3_append_9 ?_
  refine a_aload_n C dX3_append_10 0 rfl ?_
  refine a_dup C dX3_append_11 rfl ?_
  refine a_getI C (k := 168) iX3 x_k168 rfl (j := 1) rfl (by decide) (by decide +kernel) dX3_append_12 ?_
  refine a_top (y := (d 168 1)) (by first | rw [x_p_ne (by omega)] | rfl) ?_
  refine a_top (y := (nI k)) hk ?_
  refine a_iconst C dX3_append_15 (v := 1) (by decide) ?_
  refine a_iadd C dX3_append_16 ?_
  refine a_top (y := (nI (k + 1))) (nI_1 k) ?_
  refine a_putI C (k := 168) iX3 tyX3_ok nmX3 x_k168 rfl (j := 1) rfl (by decide) (by decide +kernel) rfl (ty := .int) (by decide +kernel) rfl rfl dX3_append_17 ?_
  refine a_aload_n C dX3_append_20 0 rfl ?_
  refine a_getI C (k := 168) iX3 x_k168 rfl (j := 1) rfl (by decide) (by decide +kernel) dX3_append_21 ?_
  refine a_top (y := ((nI (k + 1)))) (by first | rw [x_p_at] | rfl) ?_
  exact a_iret C hlocks hr dX3_append_24 rfl rfl


