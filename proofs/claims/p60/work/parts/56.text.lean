section XNULL
variable {G : xG} {p : Program} {l : Launch} {e : Env} {R : Room} {s : State} {m : MethodId} {args : Array Value} {below : List Frame} {meth : Method} {c : Code} {nL cells slots : Nat} {Q : State → Prop} {cc : ByteArray} {Ts : List Cond} {own : String} {pc : Nat} {lst lst2 : List (Nat × Value)} {rest : List Value} {d : xd}
theorem a_astore_nN (C : Cx G p s m args c cc Ts own nL) {i : Fin 4} (hdg : decode cc pc = .ok (.astore_n i, 1)) (hn : i.val < nL) (hl2 : (i.val, Value.null) :: lst.filter (fun q => !(q.1 == i.val) && !(q.1 + 1 == i.val && q.2.category == 2)) = lst2) (k : Ab G p l e R s m args below meth c nL cells slots Q (pc + 1) lst2 rest d) : Ab G p l e R s m args below meth c nL cells slots Q pc lst (.null :: rest) d := fun H locs ls hP hS hl => lv_astore_nN C.1.1 C.1.2.1 hdg rfl hl hn hl2 (fun ls2 h2 => k H locs ls2 hP hS h2)
theorem a_aload_nN (C : Cx G p s m args c cc Ts own nL) {i : Fin 4} (hdg : decode cc pc = .ok (.aload_n i, 1)) (q : Nat) (hk : lst[q]? = some (i.val, .null)) (k : Ab G p l e R s m args below meth c nL cells slots Q (pc + 1) lst (.null :: rest) d) : Ab G p l e R s m args below meth c nL cells slots Q pc lst rest d := fun H locs ls hP hS hl => lv_aload_nN C.1.1 C.1.2.1 hdg rfl (lv_at hl q hk) (k H locs ls hP hS hl)
end XNULL
theorem x_p_p {d : xd} {k j : Nat} {u v : Int32} : x_p (x_p d k j u) k j v = x_p d k j v := by
  unfold x_p
  rw [x_r_same, x_r_r, x_upd2]
theorem x_p_comm {d : xd} {k j k2 j2 : Nat} {u v : Int32} (h : k ≠ k2) : x_p (x_p d k j u) k2 j2 v = x_p (x_p d k2 j2 v) k j u := by
  funext a
  by_cases h1 : a = k
  · subst h1
    rw [x_p_ne h]
    simp only [x_p, x_r, if_neg h, if_true]
  · by_cases h2 : a = k2
    · subst h2
      rw [x_p_ne h1]
      simp only [x_p, x_r, if_neg h1, if_true]
    · rw [x_p_ne h2, x_p_ne h1, x_p_ne h1, x_p_ne h2]
theorem x_dig {a : Nat} (ha : a < 128) (h1 : ¬ nI a < 48) (h2 : ¬ 57 < nI a) : 48 ≤ a ∧ a ≤ 57 :=
  ⟨Nat.le_of_not_lt fun z => h1 ((nI_ltI (b := 48) (by omega) (by omega)).mpr z), Nat.le_of_not_lt fun z => h2 ((nI_ltI (a := 57) (by omega) (by omega)).mpr z)⟩
theorem x_max {a b : Nat} (ha : a < 1000) (hb : b < 1000) : (if nI a < nI b then nI b else nI a) = nI (max a b) := by
  by_cases h : a < b
  · rw [if_pos ((nI_ltI (by omega) (by omega)).mpr h), show max a b = b by omega]
  · rw [if_neg (fun z => h ((nI_ltI (by omega) (by omega)).mp z)), show max a b = a by omega]
theorem x_rdv {tx : Nat → Nat} {q i : Nat} (h : 48 ≤ tx (q + i)) : 10 * nI (tp_rd tx q i) + (nI (tx (q + i)) - 48) = nI (tp_rd tx q (i + 1)) := by
  rw [show (10 : Int32) = nI 10 from rfl, show (48 : Int32) = nI 48 from rfl, pk_sub h, pk_mul, nI_add, tp_rd]
/-- what readCommand writes -/
def t_w (d : xd) (pp : Int32) (c : Nat) (v a b : Int32) : xd := x_p (x_p (x_p (x_p d 168 2 pp) 170 c v) 171 c a) 172 c b
theorem t_w_p {d : xd} {pp p2 v a b : Int32} {c : Nat} : x_p (t_w d pp c v a b) 168 2 p2 = t_w d p2 c v a b := by
  unfold t_w
  rw [x_p_comm (k := 172) (k2 := 168) (by omega), x_p_comm (k := 171) (k2 := 168) (by omega), x_p_comm (k := 170) (k2 := 168) (by omega), x_p_p]
theorem t_w_a {d : xd} {pp v a a2 b : Int32} {c : Nat} : x_p (t_w d pp c v a b) 171 c a2 = t_w d pp c v a2 b := by
  unfold t_w
  rw [x_p_comm (k := 172) (k2 := 171) (by omega), x_p_p]
theorem t_w_b {d : xd} {pp v a b b2 : Int32} {c : Nat} : x_p (t_w d pp c v a b) 172 c b2 = t_w d pp c v a b2 := by
  unfold t_w
  rw [x_p_p]
theorem t_w_out {d : xd} {pp v a b : Int32} {c k : Nat} (h : k ≠ 168) (h2 : k < 170 ∨ 172 < k) : t_w d pp c v a b k = d k := by
  unfold t_w
  rw [x_p_ne (by omega), x_p_ne (by omega), x_p_ne (by omega), x_p_ne h]
theorem t_w_1 {d : xd} {pp v a b : Int32} {c j : Nat} (h : j ≠ 2) : t_w d pp c v a b 168 j = d 168 j := by
  unfold t_w
  rw [x_p_ne (by omega), x_p_ne (by omega), x_p_ne (by omega), x_p_row h]
theorem t_w_2 {d : xd} {pp v a b : Int32} {c : Nat} : t_w d pp c v a b 168 2 = pp := by
  unfold t_w
  rw [x_p_ne (by omega), x_p_ne (by omega), x_p_ne (by omega), x_p_at]
def tp_r1 (tx : Nat → Nat) (L v q i : Nat) : Nat := if 1 ≤ i then tp_vv tx L q (tp_m v 0) else 0
def tp_r2 (tx : Nat → Nat) (L v q i : Nat) : Nat := if 2 ≤ i then tp_vv tx L (tp_ap tx L v q 1) (tp_m v 1) else 0
theorem tp_vv_lt (tx : Nat → Nat) (L pp w : Nat) (hw : w ≤ 3) : tp_vv tx L pp w < 1000 := by
  unfold tp_vv
  have h1 := tp_dc_le tx L (pp + 1) w
  have h2 := tp_rd_lt tx (pp + 1) L _ (fun j hj => tp_dc_all tx L (pp + 1) w j hj)
  have h3 : 10 ^ tp_dc tx L (pp + 1) w ≤ 10 ^ 3 := Nat.pow_le_pow_right (by omega) (by omega)
  omega
theorem tp_m_le (v a : Nat) : 1 ≤ tp_m v a ∧ tp_m v a ≤ 3 := by
  unfold tp_m
  split <;> omega
theorem tp_vb_le (tx : Nat → Nat) (L pp : Nat) : tp_vb tx L pp ≤ 13 := by
  rcases tp_fv_cases tx L pp 13 (Nat.le_refl 13) with h | h
  · exact Nat.le_of_eq h.1
  · exact Nat.le_of_lt h.1

set_option maxHeartbeats 1000000 in
set_option maxRecDepth 100000 in
theorem c_T_readCharacter_t (l : Launch) (G : xG) (d : xd) (tx : Nat → Nat) (L : Nat) (hL : L ≤ 60) (hln : d 168 1 = nI L) (htx : ∀ j, j < L → d 169 j = nI (tx j)) (ht7 : ∀ j, j < L → tx j < 128) (pp : Nat) (hp : d 168 2 = nI pp) (hpL : pp ≤ L) (a : Nat) (ha : a < 128) (hc : tp_c tx L pp a = true) : x_M G l yX3_readCharacter wsX3_readCharacter 1 0 0 [.ref (x_b G + 168), .int (nI a)] d (some (.int 1)) (x_p d 168 2 (nI (pp + 1))) := by
  obtain ⟨hlt, hca⟩ := of_decide_eq_true hc
  have iX3 : ∀ w ∈ u_ws RX3 TX3 7, w ∈ wsX3_readCharacter := by decide +kernel
  refine x_start (cc := cX3_readCharacter) (maxL := 2) (ret := (some .boolean)) (own := RX3) (by decide) rfl rfl (Nat.le_of_ble_eq_true rfl) (lst := [(0, .ref (x_b G + 168)), (1, .int (nI a))]) rfl ?_
  intro p e s m args below meth c C hr hlocks
  refine a_aload_n C dX3_readCharacter_0 0 rfl ?_
  refine a_getI C (k := 168) iX3 x_k168 rfl (j := 2) rfl (by decide) (by decide +kernel) dX3_readCharacter_1 ?_
  refine a_top (y := (nI pp)) hp ?_
  refine a_aload_n C dX3_readCharacter_4 0 rfl ?_
  refine a_getI C (k := 168) iX3 x_k168 rfl (j := 1) rfl (by decide) (by decide +kernel) dX3_readCharacter_5 ?_
  refine a_top (y := (nI L)) hln ?_
  refine a_icmp_ge C dX3_readCharacter_8 (tgt := 24) (by decide) (fun h => absurd h (nI_ge hlt (by omega))) (fun h8 => ?_)
  refine a_aload_n C dX3_readCharacter_11 0 rfl ?_
  refine a_getR C (k := 168) iX3 x_k168 rfl (j := 0) rfl (by decide) (by decide +kernel) dX3_readCharacter_12 ?_
  refine a_aload_n C dX3_readCharacter_15 0 rfl ?_
  refine a_getI C (k := 168) iX3 x_k168 rfl (j := 2) rfl (by decide) (by decide +kernel) dX3_readCharacter_16 ?_
  refine a_top (y := (nI pp)) hp ?_
  refine a_caldN C (k := 169) x_k169 (i := pp) rfl (by omega) (by first | decide | omega) dX3_readCharacter_19 ?_
  refine a_top (y := (nI (tx pp))) (htx pp hlt) ?_
  refine a_iload_n C dX3_readCharacter_20 1 rfl ?_
  refine a_icmp_eq C dX3_readCharacter_21 (tgt := 26) (by decide) (fun h21 => ?_) (fun h => False.elim (h (congrArg nI hca)))
  refine a_aload_n C dX3_readCharacter_26 0 rfl ?_
  refine a_dup C dX3_readCharacter_27 rfl ?_
  refine a_getI C (k := 168) iX3 x_k168 rfl (j := 2) rfl (by decide) (by decide +kernel) dX3_readCharacter_28 ?_
  refine a_top (y := (nI pp)) hp ?_
  refine a_iconst C dX3_readCharacter_31 (v := 1) (by decide) ?_
  refine a_iadd C dX3_readCharacter_32 ?_
  refine a_top (y := (nI (pp + 1))) (nI_1 pp) ?_
  refine a_putI C (k := 168) iX3 tyX3_ok nmX3 x_k168 rfl (j := 2) rfl (by decide) (by decide +kernel) rfl (ty := .int) (by decide +kernel) rfl rfl dX3_readCharacter_33 ?_
  refine a_iconst C dX3_readCharacter_36 (v := 1) (by decide) ?_
  exact a_zret C hlocks hr rfl dX3_readCharacter_37 rfl rfl

set_option maxHeartbeats 1000000 in
set_option maxRecDepth 100000 in
theorem c_T_readCharacter_f (l : Launch) (G : xG) (d : xd) (tx : Nat → Nat) (L : Nat) (hL : L ≤ 60) (hln : d 168 1 = nI L) (htx : ∀ j, j < L → d 169 j = nI (tx j)) (ht7 : ∀ j, j < L → tx j < 128) (pp : Nat) (hp : d 168 2 = nI pp) (hpL : pp ≤ L) (a : Nat) (ha : a < 128) (hc : ¬ tp_c tx L pp a = true) : x_M G l yX3_readCharacter wsX3_readCharacter 1 0 0 [.ref (x_b G + 168), .int (nI a)] d (some (.int 0)) d := by
  have iX3 : ∀ w ∈ u_ws RX3 TX3 7, w ∈ wsX3_readCharacter := by decide +kernel
  refine x_start (cc := cX3_readCharacter) (maxL := 2) (ret := (some .boolean)) (own := RX3) (by decide) rfl rfl (Nat.le_of_ble_eq_true rfl) (lst := [(0, .ref (x_b G + 168)), (1, .int (nI a))]) rfl ?_
  intro p e s m args below meth c C hr hlocks
  refine a_aload_n C dX3_readCharacter_0 0 rfl ?_
  refine a_getI C (k := 168) iX3 x_k168 rfl (j := 2) rfl (by decide) (by decide +kernel) dX3_readCharacter_1 ?_
  refine a_top (y := (nI pp)) hp ?_
  refine a_aload_n C dX3_readCharacter_4 0 rfl ?_
  refine a_getI C (k := 168) iX3 x_k168 rfl (j := 1) rfl (by decide) (by decide +kernel) dX3_readCharacter_5 ?_
  refine a_top (y := (nI L)) hln ?_
  refine a_icmp_ge C dX3_readCharacter_8 (tgt := 24) (by decide) (fun h8 => ?_) (fun h8 => ?_)
  · skip
    refine a_iconst C dX3_readCharacter_24 (v := 0) (by decide) ?_
    exact a_zret C hlocks hr rfl dX3_readCharacter_25 rfl rfl
  · skip
    have hlt := x_nge h8 hpL
    refine a_aload_n C dX3_readCharacter_11 0 rfl ?_
    refine a_getR C (k := 168) iX3 x_k168 rfl (j := 0) rfl (by decide) (by decide +kernel) dX3_readCharacter_12 ?_
    refine a_aload_n C dX3_readCharacter_15 0 rfl ?_
    refine a_getI C (k := 168) iX3 x_k168 rfl (j := 2) rfl (by decide) (by decide +kernel) dX3_readCharacter_16 ?_
    refine a_top (y := (nI pp)) hp ?_
    refine a_caldN C (k := 169) x_k169 (i := pp) rfl (by omega) (by first | decide | omega) dX3_readCharacter_19 ?_
    refine a_top (y := (nI (tx pp))) (htx pp hlt) ?_
    refine a_iload_n C dX3_readCharacter_20 1 rfl ?_
    refine a_icmp_eq C dX3_readCharacter_21 (tgt := 26) (by decide) (fun h => absurd h (fun z => hc (decide_eq_true ⟨hlt, (nI_eq (by have := ht7 pp hlt; omega) (by omega)).mp z⟩))) (fun h21 => ?_)
    refine a_iconst C dX3_readCharacter_24 (v := 0) (by decide) ?_
    exact a_zret C hlocks hr rfl dX3_readCharacter_25 rfl rfl

set_option maxHeartbeats 1000000 in
set_option maxRecDepth 100000 in
theorem c_T_atDigit_t (l : Launch) (G : xG) (d : xd) (tx : Nat → Nat) (L : Nat) (hL : L ≤ 60) (hln : d 168 1 = nI L) (htx : ∀ j, j < L → d 169 j = nI (tx j)) (ht7 : ∀ j, j < L → tx j < 128) (pp : Nat) (hp : d 168 2 = nI pp) (hpL : pp ≤ L) (hc : tp_dg tx L pp = true) : x_M G l yX3_atDigit wsX3_atDigit 1 0 0 [.ref (x_b G + 168)] d (some (.int 1)) d := by
  obtain ⟨hlt, hca, hcb⟩ := of_decide_eq_true hc
  have iX3 : ∀ w ∈ u_ws RX3 TX3 7, w ∈ wsX3_atDigit := by decide +kernel
  refine x_start (cc := cX3_atDigit) (maxL := 1) (ret := (some .boolean)) (own := RX3) (by decide) rfl rfl (Nat.le_of_ble_eq_true rfl) (lst := [(0, .ref (x_b G + 168))]) rfl ?_
  intro p e s m args below meth c C hr hlocks
  refine a_aload_n C dX3_atDigit_0 0 rfl ?_
  refine a_getI C (k := 168) iX3 x_k168 rfl (j := 2) rfl (by decide) (by decide +kernel) dX3_atDigit_1 ?_
  refine a_top (y := (nI pp)) hp ?_
  refine a_aload_n C dX3_atDigit_4 0 rfl ?_
  refine a_getI C (k := 168) iX3 x_k168 rfl (j := 1) rfl (by decide) (by decide +kernel) dX3_atDigit_5 ?_
  refine a_top (y := (nI L)) hln ?_
  refine a_icmp_ge C dX3_atDigit_8 (tgt := 43) (by decide) (fun h => absurd h (nI_ge hlt (by omega))) (fun h8 => ?_)
  refine a_aload_n C dX3_atDigit_11 0 rfl ?_
  refine a_getR C (k := 168) iX3 x_k168 rfl (j := 0) rfl (by decide) (by decide +kernel) dX3_atDigit_12 ?_
  refine a_aload_n C dX3_atDigit_15 0 rfl ?_
  refine a_getI C (k := 168) iX3 x_k168 rfl (j := 2) rfl (by decide) (by decide +kernel) dX3_atDigit_16 ?_
  refine a_top (y := (nI pp)) hp ?_
  refine a_caldN C (k := 169) x_k169 (i := pp) rfl (by omega) (by first | decide | omega) dX3_atDigit_19 ?_
  refine a_top (y := (nI (tx pp))) (htx pp hlt) ?_
  refine a_bipush C dX3_atDigit_20 (v := 48) (by decide) ?_
  refine a_icmp_lt C dX3_atDigit_22 (tgt := 43) (by decide) (fun h => absurd h (nI_nlt (b := 48) hca (by omega))) (fun h22 => ?_)
  refine a_aload_n C dX3_atDigit_25 0 rfl ?_
  refine a_getR C (k := 168) iX3 x_k168 rfl (j := 0) rfl (by decide) (by decide +kernel) dX3_atDigit_26 ?_
  refine a_aload_n C dX3_atDigit_29 0 rfl ?_
  refine a_getI C (k := 168) iX3 x_k168 rfl (j := 2) rfl (by decide) (by decide +kernel) dX3_atDigit_30 ?_
  refine a_top (y := (nI pp)) hp ?_
  refine a_caldN C (k := 169) x_k169 (i := pp) rfl (by omega) (by first | decide | omega) dX3_atDigit_33 ?_
  refine a_top (y := (nI (tx pp))) (htx pp hlt) ?_
  refine a_bipush C dX3_atDigit_34 (v := 57) (by decide) ?_
  refine a_icmp_gt C dX3_atDigit_36 (tgt := 43) (by decide) (fun h => absurd h (nI_nlt (a := 57) hcb (by omega))) (fun h36 => ?_)
  refine a_iconst C dX3_atDigit_39 (v := 1) (by decide) ?_
  refine a_goto C dX3_atDigit_40 (tgt := 44) (by decide) ?_
  exact a_zret C hlocks hr rfl dX3_atDigit_44 rfl rfl

set_option maxHeartbeats 1000000 in
set_option maxRecDepth 100000 in
theorem c_T_atDigit_f (l : Launch) (G : xG) (d : xd) (tx : Nat → Nat) (L : Nat) (hL : L ≤ 60) (hln : d 168 1 = nI L) (htx : ∀ j, j < L → d 169 j = nI (tx j)) (ht7 : ∀ j, j < L → tx j < 128) (pp : Nat) (hp : d 168 2 = nI pp) (hpL : pp ≤ L) (hc : ¬ tp_dg tx L pp = true) : x_M G l yX3_atDigit wsX3_atDigit 1 0 0 [.ref (x_b G + 168)] d (some (.int 0)) d := by
  have iX3 : ∀ w ∈ u_ws RX3 TX3 7, w ∈ wsX3_atDigit := by decide +kernel
  refine x_start (cc := cX3_atDigit) (maxL := 1) (ret := (some .boolean)) (own := RX3) (by decide) rfl rfl (Nat.le_of_ble_eq_true rfl) (lst := [(0, .ref (x_b G + 168))]) rfl ?_
  intro p e s m args below meth c C hr hlocks
  refine a_aload_n C dX3_atDigit_0 0 rfl ?_
  refine a_getI C (k := 168) iX3 x_k168 rfl (j := 2) rfl (by decide) (by decide +kernel) dX3_atDigit_1 ?_
  refine a_top (y := (nI pp)) hp ?_
  refine a_aload_n C dX3_atDigit_4 0 rfl ?_
  refine a_getI C (k := 168) iX3 x_k168 rfl (j := 1) rfl (by decide) (by decide +kernel) dX3_atDigit_5 ?_
  refine a_top (y := (nI L)) hln ?_
  refine a_icmp_ge C dX3_atDigit_8 (tgt := 43) (by decide) (fun h8 => ?_) (fun h8 => ?_)
  · skip
    refine a_iconst C dX3_atDigit_43 (v := 0) (by decide) ?_
    exact a_zret C hlocks hr rfl dX3_atDigit_44 rfl rfl
  · skip
    have hlt := x_nge h8 hpL
    refine a_aload_n C dX3_atDigit_11 0 rfl ?_
    refine a_getR C (k := 168) iX3 x_k168 rfl (j := 0) rfl (by decide) (by decide +kernel) dX3_atDigit_12 ?_
    refine a_aload_n C dX3_atDigit_15 0 rfl ?_
    refine a_getI C (k := 168) iX3 x_k168 rfl (j := 2) rfl (by decide) (by decide +kernel) dX3_atDigit_16 ?_
    refine a_top (y := (nI pp)) hp ?_
    refine a_caldN C (k := 169) x_k169 (i := pp) rfl (by omega) (by first | decide | omega) dX3_atDigit_19 ?_
    refine a_top (y := (nI (tx pp))) (htx pp hlt) ?_
    refine a_bipush C dX3_atDigit_20 (v := 48) (by decide) ?_
    refine a_icmp_lt C dX3_atDigit_22 (tgt := 43) (by decide) (fun h22 => ?_) (fun h22 => ?_)
    · skip
      refine a_iconst C dX3_atDigit_43 (v := 0) (by decide) ?_
      exact a_zret C hlocks hr rfl dX3_atDigit_44 rfl rfl
    · skip
      refine a_aload_n C dX3_atDigit_25 0 rfl ?_
      refine a_getR C (k := 168) iX3 x_k168 rfl (j := 0) rfl (by decide) (by decide +kernel) dX3_atDigit_26 ?_
      refine a_aload_n C dX3_atDigit_29 0 rfl ?_
      refine a_getI C (k := 168) iX3 x_k168 rfl (j := 2) rfl (by decide) (by decide +kernel) dX3_atDigit_30 ?_
      refine a_top (y := (nI pp)) hp ?_
      refine a_caldN C (k := 169) x_k169 (i := pp) rfl (by omega) (by first | decide | omega) dX3_atDigit_33 ?_
      refine a_top (y := (nI (tx pp))) (htx pp hlt) ?_
      refine a_bipush C dX3_atDigit_34 (v := 57) (by decide) ?_
      refine a_icmp_gt C dX3_atDigit_36 (tgt := 43) (by decide) (fun h36 => ?_) (fun h => False.elim (hc (decide_eq_true ⟨hlt, x_dig (ht7 pp hlt) h22 h⟩)))
      refine a_iconst C dX3_atDigit_43 (v := 0) (by decide) ?_
      exact a_zret C hlocks hr rfl dX3_atDigit_44 rfl rfl

theorem c_T_atDigit (l : Launch) (G : xG) (d : xd) (tx : Nat → Nat) (L : Nat) (hL : L ≤ 60) (hln : d 168 1 = nI L) (htx : ∀ j, j < L → d 169 j = nI (tx j)) (ht7 : ∀ j, j < L → tx j < 128) (pp : Nat) (hp : d 168 2 = nI pp) (hpL : pp ≤ L) : x_M G l yX3_atDigit wsX3_atDigit 1 0 0 [.ref (x_b G + 168)] d (some (.int (x_bi (tp_dg tx L pp = true)))) d := by
  by_cases h : tp_dg tx L pp = true
  · rw [x_bi_t h]
    exact c_T_atDigit_t l G d tx L hL hln htx ht7 pp hp hpL h
  · rw [x_bi_f h]
    exact c_T_atDigit_f l G d tx L hL hln htx ht7 pp hp hpL h

set_option maxHeartbeats 1000000 in
set_option maxRecDepth 100000 in
theorem c_T_readValue_0 (l : Launch) (G : xG) (d : xd) (tx : Nat → Nat) (L : Nat) (hL : L ≤ 60) (hln : d 168 1 = nI L) (htx : ∀ j, j < L → d 169 j = nI (tx j)) (ht7 : ∀ j, j < L → tx j < 128) (pp : Nat) (hp : d 168 2 = nI pp) (hpL : pp ≤ L) (w : Nat) (hw : w ≤ 3) (hc : ¬ tp_c tx L pp 32 = true) : x_M G l yX3_readValue wsX3_readValue 2 0 0 [.ref (x_b G + 168), .int (nI w)] d (some (.int (-1))) d := by
  refine x_start (cc := cX3_readValue) (maxL := 4) (ret := (some .int)) (own := RX3) (by decide) rfl rfl (Nat.le_of_ble_eq_true rfl) (lst := [(0, .ref (x_b G + 168)), (1, .int (nI w))]) rfl ?_
  intro p e s m args below meth c C hr hlocks
  refine a_aload_n C dX3_readValue_0 0 rfl ?_
  refine a_bipush C dX3_readValue_1 (v := 32) (by decide) ?_
  refine a_callV C (k := 168) (As := [.int 32]) (rest := []) (c_T_readCharacter_f l G d tx L hL hln htx ht7 pp hp hpL 32 (by omega) hc) (cwV 1 C.1.2.2.2.2 gX3_readValue_X3_readCharacter rfl rfl rfl (by decide +kernel) ⟨Nat.le_of_ble_eq_true rfl, Nat.le_of_ble_eq_true rfl⟩) x_k168 (q := (RX3, TX3, 7)) rfl rfl rfl rfl (Nat.le_of_ble_eq_true rfl) dX3_readValue_3 ⟨Nat.le_of_ble_eq_true rfl, Nat.le_of_ble_eq_true rfl⟩ ?_
  refine a_if_eq C dX3_readValue_6 (tgt := 16) (by decide) (fun _ => ?_) (fun h => absurd h (by decide))
  refine a_iconst C dX3_readValue_16 (v := -1) (by decide) ?_
  exact a_iret C hlocks hr dX3_readValue_17 rfl rfl

set_option maxHeartbeats 1000000 in
set_option maxRecDepth 100000 in
theorem c_T_readValue_1 (l : Launch) (G : xG) (d : xd) (tx : Nat → Nat) (L : Nat) (hL : L ≤ 60) (hln : d 168 1 = nI L) (htx : ∀ j, j < L → d 169 j = nI (tx j)) (ht7 : ∀ j, j < L → tx j < 128) (pp : Nat) (hp : d 168 2 = nI pp) (hpL : pp ≤ L) (w : Nat) (hw : w ≤ 3) (hc : tp_c tx L pp 32 = true) (hd : ¬ tp_dg tx L (pp + 1) = true) : x_M G l yX3_readValue wsX3_readValue 2 0 0 [.ref (x_b G + 168), .int (nI w)] d (some (.int (-1))) (x_p d 168 2 (nI (pp + 1))) := by
  refine x_start (cc := cX3_readValue) (maxL := 4) (ret := (some .int)) (own := RX3) (by decide) rfl rfl (Nat.le_of_ble_eq_true rfl) (lst := [(0, .ref (x_b G + 168)), (1, .int (nI w))]) rfl ?_
  intro p e s m args below meth c C hr hlocks
  refine a_aload_n C dX3_readValue_0 0 rfl ?_
  refine a_bipush C dX3_readValue_1 (v := 32) (by decide) ?_
  refine a_callV C (k := 168) (As := [.int 32]) (rest := []) (c_T_readCharacter_t l G d tx L hL hln htx ht7 pp hp hpL 32 (by omega) hc) (cwV 1 C.1.2.2.2.2 gX3_readValue_X3_readCharacter rfl rfl rfl (by decide +kernel) ⟨Nat.le_of_ble_eq_true rfl, Nat.le_of_ble_eq_true rfl⟩) x_k168 (q := (RX3, TX3, 7)) rfl rfl rfl rfl (Nat.le_of_ble_eq_true rfl) dX3_readValue_3 ⟨Nat.le_of_ble_eq_true rfl, Nat.le_of_ble_eq_true rfl⟩ ?_
  refine a_if_eq C dX3_readValue_6 (tgt := 16) (by decide) (fun h => absurd h (by decide)) (fun _ => ?_)
  refine a_aload_n C dX3_readValue_9 0 rfl ?_
  refine a_callV C (k := 168) (As := []) (rest := []) (c_T_atDigit_f l G (x_p d 168 2 (nI (pp + 1))) tx L hL (by rw [x_p_row (by omega)]; exact hln) (fun j hj => by rw [x_p_ne (by omega)]; exact htx j hj) ht7 (pp + 1) x_p_at (tp_c_lt hc) hd) (cwV 0 C.1.2.2.2.2 gX3_readValue_X3_atDigit rfl rfl rfl (by decide +kernel) ⟨Nat.le_of_ble_eq_true rfl, Nat.le_of_ble_eq_true rfl⟩) x_k168 (q := (RX3, TX3, 7)) rfl rfl rfl rfl (Nat.le_of_ble_eq_true rfl) dX3_readValue_10 ⟨Nat.le_of_ble_eq_true rfl, Nat.le_of_ble_eq_true rfl⟩ ?_
  refine a_if_ne C dX3_readValue_13 (tgt := 18) (by decide) (fun h => absurd h (by decide)) (fun _ => ?_)
  refine a_iconst C dX3_readValue_16 (v := -1) (by decide) ?_
  exact a_iret C hlocks hr dX3_readValue_17 rfl rfl

set_option maxHeartbeats 1000000 in
set_option maxRecDepth 100000 in
theorem c_T_readValue_2 (l : Launch) (G : xG) (d : xd) (tx : Nat → Nat) (L : Nat) (hL : L ≤ 60) (hln : d 168 1 = nI L) (htx : ∀ j, j < L → d 169 j = nI (tx j)) (ht7 : ∀ j, j < L → tx j < 128) (pp : Nat) (hp : d 168 2 = nI pp) (hpL : pp ≤ L) (w : Nat) (hw : w ≤ 3) (hc : tp_c tx L pp 32 = true) (hd : tp_dg tx L (pp + 1) = true) : x_M G l yX3_readValue wsX3_readValue 2 0 0 [.ref (x_b G + 168), .int (nI w)] d (some (.int (nI (tp_vv tx L pp w)))) (x_p d 168 2 (nI (tp_vp tx L pp w))) := by
  have hplt := tp_c_lt hc
  have iX3 : ∀ w ∈ u_ws RX3 TX3 7, w ∈ wsX3_readValue := by decide +kernel
  refine x_start (cc := cX3_readValue) (maxL := 4) (ret := (some .int)) (own := RX3) (by decide) rfl rfl (Nat.le_of_ble_eq_true rfl) (lst := [(0, .ref (x_b G + 168)), (1, .int (nI w))]) rfl ?_
  intro p e s m args below meth c C hr hlocks
  refine a_aload_n C dX3_readValue_0 0 rfl ?_
  refine a_bipush C dX3_readValue_1 (v := 32) (by decide) ?_
  refine a_callV C (k := 168) (As := [.int 32]) (rest := []) (c_T_readCharacter_t l G d tx L hL hln htx ht7 pp hp hpL 32 (by omega) hc) (cwV 1 C.1.2.2.2.2 gX3_readValue_X3_readCharacter rfl rfl rfl (by decide +kernel) ⟨Nat.le_of_ble_eq_true rfl, Nat.le_of_ble_eq_true rfl⟩) x_k168 (q := (RX3, TX3, 7)) rfl rfl rfl rfl (Nat.le_of_ble_eq_true rfl) dX3_readValue_3 ⟨Nat.le_of_ble_eq_true rfl, Nat.le_of_ble_eq_true rfl⟩ ?_
  refine a_if_eq C dX3_readValue_6 (tgt := 16) (by decide) (fun h => absurd h (by decide)) (fun _ => ?_)
  refine a_aload_n C dX3_readValue_9 0 rfl ?_
  refine a_callV C (k := 168) (As := []) (rest := []) (c_T_atDigit_t l G (x_p d 168 2 (nI (pp + 1))) tx L hL (by rw [x_p_row (by omega)]; exact hln) (fun j hj => by rw [x_p_ne (by omega)]; exact htx j hj) ht7 (pp + 1) x_p_at (tp_c_lt hc) hd) (cwV 0 C.1.2.2.2.2 gX3_readValue_X3_atDigit rfl rfl rfl (by decide +kernel) ⟨Nat.le_of_ble_eq_true rfl, Nat.le_of_ble_eq_true rfl⟩) x_k168 (q := (RX3, TX3, 7)) rfl rfl rfl rfl (Nat.le_of_ble_eq_true rfl) dX3_readValue_10 ⟨Nat.le_of_ble_eq_true rfl, Nat.le_of_ble_eq_true rfl⟩ ?_
  refine a_if_ne C dX3_readValue_13 (tgt := 18) (by decide) (fun _ => ?_) (fun h => absurd h (by decide))
  refine a_iconst C dX3_readValue_18 (v := 0) (by decide) ?_
  refine a_istore_n C dX3_readValue_19 (by decide) (lst2 := [(2, .int 0), (0, .ref (x_b G + 168)), (1, .int (nI w))]) rfl ?_
  refine a_iconst C dX3_readValue_20 (v := 0) (by decide) ?_
  refine a_istore_n C dX3_readValue_21 (by decide) (lst2 := [(3, .int 0), (2, .int 0), (0, .ref (x_b G + 168)), (1, .int (nI w))]) rfl ?_
  have L22 : ∀ (j i : Nat), i ≤ w → w < i + j → tp_dc tx L (pp + 1) i = i → Ab G p l e (x_rm 2 0 0) s m args below meth c 4 0 0 (MQ below (x_Q G (some (.int (nI (tp_vv tx L pp w)))) (x_p d 168 2 (nI (tp_vp tx L pp w)))) args s 0 0 (x_A G)) 22 [(3, .int (nI i)), (2, .int (nI (tp_rd tx (pp + 1) i))), (0, .ref (x_b G + 168)), (1, .int (nI w))] [] (x_p d 168 2 (nI (pp + 1 + i))) := by
    intro j
    induction j with
    | zero => intro i h1 h2; exact absurd h2 (by omega)
    | succ j ih =>
      intro i hi hj hq
      have hin := tp_dc_in tx L (pp + 1) i
      refine a_iload_n C dX3_readValue_22 0 rfl ?_
      refine a_iload_n C dX3_readValue_23 3 rfl ?_
      refine a_icmp_ge C dX3_readValue_24 (tgt := 68) (by decide) (fun h24 => ?_) (fun h24 => ?_)
      · skip
        have e := x_ge h24 hi (by omega)
        have e9 := e.symm
        subst e9
        clear e
        refine a_iload_n C dX3_readValue_68 1 rfl ?_
        exact a_iret C hlocks hr dX3_readValue_69 (congrArg nI (by unfold tp_vv; rw [hq])) (congrArg (fun z => x_p d 168 2 (nI z)) (by unfold tp_vp; rw [if_pos hc, if_pos hd, hq]))
      · skip
        have hlt := x_nge h24 hi
        refine a_aload_n C dX3_readValue_27 2 rfl ?_
        refine a_callV C (k := 168) (As := []) (rest := []) (c_T_atDigit l G (x_p d 168 2 (nI (pp + 1 + i))) tx L hL (by rw [x_p_row (by omega)]; exact hln) (fun j hj => by rw [x_p_ne (by omega)]; exact htx j hj) ht7 (pp + 1 + i) x_p_at (by omega)) (cwV 0 C.1.2.2.2.2 gX3_readValue_X3_atDigit rfl rfl rfl (by decide +kernel) ⟨Nat.le_of_ble_eq_true rfl, Nat.le_of_ble_eq_true rfl⟩) x_k168 (q := (RX3, TX3, 7)) rfl rfl rfl rfl (Nat.le_of_ble_eq_true rfl) dX3_readValue_28 ⟨Nat.le_of_ble_eq_true rfl, Nat.le_of_ble_eq_true rfl⟩ ?_
        refine a_if_eq C dX3_readValue_31 (tgt := 68) (by decide) (fun h31 => ?_) (fun h31 => ?_)
        · skip
          have hnd := x_bi_z h31
          refine a_iload_n C dX3_readValue_68 1 rfl ?_
          exact a_iret C hlocks hr dX3_readValue_69 (congrArg nI (by unfold tp_vv; rw [tp_dc_stop tx L (pp + 1) i (fun z => hnd z.2) hq w (by omega)])) (congrArg (fun z => x_p d 168 2 (nI z)) (by unfold tp_vp; rw [if_pos hc, if_pos hd, tp_dc_stop tx L (pp + 1) i (fun z => hnd z.2) hq w (by omega)]))
        · skip
          have hdg := x_bi_nz h31
          have hlt2 := (of_decide_eq_true hdg).1
          have h48 := (of_decide_eq_true hdg).2.1
          refine a_bipush C dX3_readValue_34 (v := 10) (by decide) ?_
          refine a_iload_n C dX3_readValue_36 1 rfl ?_
          refine a_imul C dX3_readValue_37 ?_
          refine a_aload_n C dX3_readValue_38 2 rfl ?_
          refine a_getR C (k := 168) iX3 x_k168 rfl (j := 0) rfl (by decide) (by decide +kernel) dX3_readValue_39 ?_
          refine a_aload_n C dX3_readValue_42 2 rfl ?_
          refine a_getI C (k := 168) iX3 x_k168 rfl (j := 2) rfl (by decide) (by decide +kernel) dX3_readValue_43 ?_
          refine a_top (y := ((nI (pp + 1 + i)))) (by first | rw [x_p_at] | rfl) ?_
          refine a_top (y := (nI (pp + 1 + i))) rfl ?_
          refine a_caldN C (k := 169) x_k169 (i := pp + 1 + i) rfl (by omega) (by first | decide | omega) dX3_readValue_46 ?_
          refine a_top (y := (d 169 (pp + 1 + i))) (by first | rw [x_p_ne (by omega)] | rfl) ?_
          refine a_top (y := (nI (tx (pp + 1 + i)))) (htx _ hlt2) ?_
          refine a_bipush C dX3_readValue_47 (v := 48) (by decide) ?_
          refine a_isub C dX3_readValue_49 ?_
          refine a_iadd C dX3_readValue_50 ?_
          refine a_top (y := (nI (tp_rd tx (pp + 1) (i + 1)))) (x_rdv h48) ?_
          refine a_istore_n C dX3_readValue_51 (by decide) (lst2 := [(2, .int (nI (tp_rd tx (pp + 1) (i + 1)))), (3, .int (nI i)), (0, .ref (x_b G + 168)), (1, .int (nI w))]) rfl ?_
          refine a_aload_n C dX3_readValue_52 2 rfl ?_
          refine a_dup C dX3_readValue_53 rfl ?_
          refine a_getI C (k := 168) iX3 x_k168 rfl (j := 2) rfl (by decide) (by decide +kernel) dX3_readValue_54 ?_
          refine a_top (y := ((nI (pp + 1 + i)))) (by first | rw [x_p_at] | rfl) ?_
          refine a_top (y := (nI (pp + 1 + i))) rfl ?_
          refine a_iconst C dX3_readValue_57 (v := 1) (by decide) ?_
          refine a_iadd C dX3_readValue_58 ?_
          refine a_top (y := (nI (pp + 1 + (i + 1)))) (nI_1 _) ?_
          refine a_putI C (k := 168) iX3 tyX3_ok nmX3 x_k168 rfl (j := 2) rfl (by decide) (by decide +kernel) rfl (ty := .int) (by decide +kernel) rfl rfl dX3_readValue_59 ?_
          refine a_iinc C dX3_readValue_62 1 rfl (v := (nI (i + 1))) (x_inc i) (by decide) (lst2 := [(3, .int (nI (i + 1))), (2, .int (nI (tp_rd tx (pp + 1) (i + 1)))), (0, .ref (x_b G + 168)), (1, .int (nI w))]) rfl ?_
          refine a_goto C dX3_readValue_65 (tgt := 22) (by decide) ?_
          refine a_sub (lst2 := [(3, .int (nI (i + 1))), (2, .int (nI (tp_rd tx (pp + 1) (i + 1)))), (0, .ref (x_b G + 168)), (1, .int (nI w))]) [0, 1, 2, 3] rfl ?_
          refine a_to (lst2 := [(3, .int (nI ((i + 1)))), (2, .int (nI (tp_rd tx (pp + 1) ((i + 1))))), (0, .ref (x_b G + 168)), (1, .int (nI w))]) (st2 := []) (d2 := x_p d 168 2 (nI (pp + 1 + ((i + 1))))) rfl rfl (x_p_p).symm ?_
          exact ih (i + 1) (by omega) (by omega) (by rw [tp_dc, if_pos ⟨hq, hdg⟩])
  refine a_sub (lst2 := [(3, .int 0), (2, .int 0), (0, .ref (x_b G + 168)), (1, .int (nI w))]) [0, 1, 2, 3] rfl ?_
  exact L22 (w + 1) 0 (by omega) (by omega) rfl

set_option maxHeartbeats 1000000 in
set_option maxRecDepth 100000 in
theorem c_T_matchingLength (l : Launch) (G : xG) (d : xd) (tx : Nat → Nat) (L : Nat) (hL : L ≤ 60) (hln : d 168 1 = nI L) (htx : ∀ j, j < L → d 169 j = nI (tx j)) (ht7 : ∀ j, j < L → tx j < 128) (pp : Nat) (hp : d 168 2 = nI pp) (hpL : pp ≤ L) (v : Nat) (hv : v < 13) : x_M G l yX3_matchingLength wsX3_matchingLength 5 0 0 [.ref (x_b G + 168), .ref (x_e G 2 v)] d (some (.int (nI (tp_ml tx L pp v)))) d := by
  have hwl := x_wL_lt v hv
  have iX3 : ∀ w ∈ u_ws RX3 TX3 7, w ∈ wsX3_matchingLength := by decide +kernel
  refine x_start (cc := cX3_matchingLength) (maxL := 3) (ret := (some .int)) (own := RX3) (by decide) rfl rfl (Nat.le_of_ble_eq_true rfl) (lst := [(0, .ref (x_b G + 168)), (1, .ref (x_e G 2 v))]) rfl ?_
  intro p e s m args below meth c C hr hlocks
  refine a_iconst C dX3_matchingLength_0 (v := 0) (by decide) ?_
  refine a_istore_n C dX3_matchingLength_1 (by decide) (lst2 := [(2, .int 0), (0, .ref (x_b G + 168)), (1, .ref (x_e G 2 v))]) rfl ?_
  have L2 : ∀ (j i : Nat), i ≤ (x_wL v) → (x_wL v) < i + j → tp_mg tx L pp v i = i → Ab G p l e (x_rm 5 0 0) s m args below meth c 3 0 0 (MQ below (x_Q G (some (.int (nI (tp_ml tx L pp v)))) d) args s 0 0 (x_A G)) 2 [(2, .int (nI i)), (0, .ref (x_b G + 168)), (1, .ref (x_e G 2 v))] [] d := by
    intro j
    induction j with
    | zero => intro i h1 h2; exact absurd h2 (by omega)
    | succ j ih =>
      intro i hi hj hq
      refine a_iload_n C dX3_matchingLength_2 0 rfl ?_
      refine a_aload_n C dX3_matchingLength_3 2 rfl ?_
      refine a_callR C (b := x_e G 2 v) (As := []) (rest := [.int (nI i)]) (c_S_length l G d v (by omega)) (cwV 0 C.1.2.2.2.2 gX3_matchingLength_J0_length_8abf5 rfl rfl rfl (by decide +kernel) ⟨Nat.le_of_ble_eq_true rfl, Nat.le_of_ble_eq_true rfl⟩) (x_recS C (by first | assumption | omega)) rfl rfl (Nat.le_of_ble_eq_true rfl) dX3_matchingLength_4 ⟨Nat.le_of_ble_eq_true rfl, Nat.le_of_ble_eq_true rfl⟩ ?_
      refine a_icmp_ge C dX3_matchingLength_7 (tgt := 48) (by decide) (fun h7 => ?_) (fun h7 => ?_)
      · skip
        have e := x_ge h7 hi (by omega)
        have e9 := e.symm
        subst e9
        clear e
        refine a_iload_n C dX3_matchingLength_48 0 rfl ?_
        exact a_iret C hlocks hr dX3_matchingLength_49 (congrArg nI hq.symm) rfl
      · skip
        have hlt := x_nge h7 hi
        refine a_aload_n C dX3_matchingLength_10 1 rfl ?_
        refine a_getI C (k := 168) iX3 x_k168 rfl (j := 2) rfl (by decide) (by decide +kernel) dX3_matchingLength_11 ?_
        refine a_top (y := (nI pp)) hp ?_
        refine a_iload_n C dX3_matchingLength_14 0 rfl ?_
        refine a_iadd C dX3_matchingLength_15 ?_
        refine a_top (y := (nI (pp + i))) (nI_add pp i) ?_
        refine a_aload_n C dX3_matchingLength_16 1 rfl ?_
        refine a_getI C (k := 168) iX3 x_k168 rfl (j := 1) rfl (by decide) (by decide +kernel) dX3_matchingLength_17 ?_
        refine a_top (y := (nI L)) hln ?_
        refine a_icmp_ge C dX3_matchingLength_20 (tgt := 48) (by decide) (fun h20 => ?_) (fun h20 => ?_)
        · skip
          have hno : ¬ tp_c tx L (pp + i) (x_wN v i) = true := fun z => nI_ge (tp_c_lt z) (by omega) h20
          refine a_iload_n C dX3_matchingLength_48 0 rfl ?_
          exact a_iret C hlocks hr dX3_matchingLength_49 (congrArg nI (tp_mg_stop tx L pp v i hno hq (x_wL v) (by omega)).symm) rfl
        · skip
          have hlt2 : pp + i < L := Nat.lt_of_not_le (fun z => h20 (nI_le z (by omega)))
          refine a_aload_n C dX3_matchingLength_23 1 rfl ?_
          refine a_getR C (k := 168) iX3 x_k168 rfl (j := 0) rfl (by decide) (by decide +kernel) dX3_matchingLength_24 ?_
          refine a_aload_n C dX3_matchingLength_27 1 rfl ?_
          refine a_getI C (k := 168) iX3 x_k168 rfl (j := 2) rfl (by decide) (by decide +kernel) dX3_matchingLength_28 ?_
          refine a_top (y := (nI pp)) hp ?_
          refine a_iload_n C dX3_matchingLength_31 0 rfl ?_
          refine a_iadd C dX3_matchingLength_32 ?_
          refine a_top (y := (nI (pp + i))) (nI_add pp i) ?_
          refine a_caldN C (k := 169) x_k169 (i := pp + i) rfl (by omega) (by first | decide | omega) dX3_matchingLength_33 ?_
          refine a_top (y := (nI (tx (pp + i)))) (htx _ hlt2) ?_
          refine a_aload_n C dX3_matchingLength_34 2 rfl ?_
          refine a_iload_n C dX3_matchingLength_35 0 rfl ?_
          refine a_callR C (b := x_e G 2 v) (As := [.int (nI i)]) (rest := [.int (nI (tx (pp + i)))]) (c_S_charAt l G d v (by omega) i hlt) (cwV 1 C.1.2.2.2.2 gX3_matchingLength_J0_charAt_5068e rfl rfl rfl (by decide +kernel) ⟨Nat.le_of_ble_eq_true rfl, Nat.le_of_ble_eq_true rfl⟩) (x_recS C (by first | assumption | omega)) rfl rfl (Nat.le_of_ble_eq_true rfl) dX3_matchingLength_36 ⟨Nat.le_of_ble_eq_true rfl, Nat.le_of_ble_eq_true rfl⟩ ?_
          refine a_icmp_ne C dX3_matchingLength_39 (tgt := 48) (by decide) (fun h39 => ?_) (fun h39 => ?_)
          · skip
            have hno : ¬ tp_c tx L (pp + i) (x_wN v i) = true := fun z => h39 (congrArg nI (of_decide_eq_true z).2)
            refine a_iload_n C dX3_matchingLength_48 0 rfl ?_
            exact a_iret C hlocks hr dX3_matchingLength_49 (congrArg nI (tp_mg_stop tx L pp v i hno hq (x_wL v) (by omega)).symm) rfl
          · skip
            refine a_iinc C dX3_matchingLength_42 0 rfl (v := (nI (i + 1))) (x_inc i) (by decide) (lst2 := [(2, .int (nI (i + 1))), (0, .ref (x_b G + 168)), (1, .ref (x_e G 2 v))]) rfl ?_
            refine a_goto C dX3_matchingLength_45 (tgt := 2) (by decide) ?_
            refine a_sub (lst2 := [(2, .int (nI (i + 1))), (0, .ref (x_b G + 168)), (1, .ref (x_e G 2 v))]) [0, 1, 2] rfl ?_
            exact ih (i + 1) (by omega) (by omega) (by rw [tp_mg, if_pos ⟨hq, decide_eq_true ⟨hlt2, (nI_eq (by have := ht7 _ hlt2; omega) (by have := (x_wB_ok v hv i hlt).2.1; omega)).mp h39⟩⟩])
  refine a_sub (lst2 := [(2, .int 0), (0, .ref (x_b G + 168)), (1, .ref (x_e G 2 v))]) [0, 1, 2] rfl ?_
  exact L2 ((x_wL v) + 1) 0 (by omega) (by omega) rfl

theorem x_alls {P : Nat → Prop} {i : Nat} (h : ∀ j, j < i → P j) (h2 : P i) : ∀ j, j < i + 1 → P j := fun j hj => by
  rcases Nat.lt_or_ge j i with z | z
  · exact h j z
  · have e : j = i := by omega
    subst e; exact h2
set_option maxHeartbeats 1000000 in
set_option maxRecDepth 100000 in
theorem c_T_readVerb_t (l : Launch) (G : xG) (d : xd) (tx : Nat → Nat) (L : Nat) (hL : L ≤ 60) (hln : d 168 1 = nI L) (htx : ∀ j, j < L → d 169 j = nI (tx j)) (ht7 : ∀ j, j < L → tx j < 128) (pp : Nat) (hp : d 168 2 = nI pp) (hpL : pp ≤ L) (v : Nat) (hv : v < 13) (hvb : tp_vb tx L pp = v) : x_M G l yX3_readVerb wsX3_readVerb 6 0 0 [.ref (x_b G + 168)] d (some (.ref (x_e G 0 v))) (x_p d 168 2 (nI (pp + x_wL v))) := by
  have iX3 : ∀ w ∈ u_ws RX3 TX3 7, w ∈ wsX3_readVerb := by decide +kernel
  refine x_start (cc := cX3_readVerb) (maxL := 7) (ret := (some (.object "LampCooperative$Verb"))) (own := RX3) (by decide) rfl rfl (Nat.le_of_ble_eq_true rfl) (lst := [(0, .ref (x_b G + 168))]) rfl ?_
  intro p e s m args below meth c C hr hlocks
  refine a_iconst C dX3_readVerb_0 (v := 0) (by decide) ?_
  refine a_istore_n C dX3_readVerb_1 (by decide) (lst2 := [(1, .int 0), (0, .ref (x_b G + 168))]) rfl ?_
  refine a_getsVB C (by decide +kernel) dX3_readVerb_2 ?_
  refine a_astore_n C dX3_readVerb_5 (by decide) (lst2 := [(2, .ref (x_e G 4 0)), (1, .int 0), (0, .ref (x_b G + 168))]) rfl ?_
  refine a_aload_n C dX3_readVerb_6 0 rfl ?_
  refine a_alenVB C dX3_readVerb_7 ?_
  refine a_istore_n C dX3_readVerb_8 (by decide) (lst2 := [(3, .int 13), (2, .ref (x_e G 4 0)), (1, .int 0), (0, .ref (x_b G + 168))]) rfl ?_
  refine a_iconst C dX3_readVerb_9 (v := 0) (by decide) ?_
  refine a_istore C dX3_readVerb_10 (by decide) (lst2 := [(4, .int 0), (3, .int 13), (2, .ref (x_e G 4 0)), (1, .int 0), (0, .ref (x_b G + 168))]) rfl ?_
  have L12 : ∀ (j i : Nat), i ≤ 13 → 13 < i + j → (∀ j, j < i → ¬ tp_ml tx L pp j = x_wL j) → Ab G p l e (x_rm 6 0 0) s m args below meth c 7 0 0 (MQ below (x_Q G (some (.ref (x_e G 0 v))) (x_p d 168 2 (nI (pp + x_wL v)))) args s 0 0 (x_A G)) 12 [(4, .int (nI i)), (3, .int 13), (2, .ref (x_e G 4 0)), (1, .int (nI (tp_mx tx L pp i))), (0, .ref (x_b G + 168))] [] d := by
    intro j
    induction j with
    | zero => intro i h1 h2; exact absurd h2 (by omega)
    | succ j ih =>
      intro i hi hj hq
      have hmx := tp_mx_le tx L pp i (by omega)
      refine a_iload C dX3_readVerb_12 0 rfl ?_
      refine a_iload_n C dX3_readVerb_14 1 rfl ?_
      refine a_icmp_ge C dX3_readVerb_15 (tgt := 75) (by decide) (fun h15 => ?_) (fun h15 => ?_)
      · skip
        have e := x_ge (n := 13) h15 hi (by omega)
        have e9 := e.symm
        subst e9
        clear e
        exact absurd hv (by rw [← hvb, show tp_vb tx L pp = 13 from tp_fv_no tx L pp 13 hq]; omega)
      · skip
        have hlt := x_nge (n := 13) h15 hi
        have hwl := x_wL_lt i hlt
        have hml2 : tp_ml tx L pp i ≤ x_wL i := tp_mg_le tx L pp i (x_wL i)
        refine a_aload_n C dX3_readVerb_18 2 rfl ?_
        refine a_iload C dX3_readVerb_19 0 rfl ?_
        refine a_aaldVB C (i := i) rfl (by omega) dX3_readVerb_21 ?_
        refine a_astore C dX3_readVerb_22 (by decide) (lst2 := [(5, .ref (x_e G 0 i)), (4, .int (nI i)), (3, .int 13), (2, .ref (x_e G 4 0)), (1, .int (nI (tp_mx tx L pp i))), (0, .ref (x_b G + 168))]) rfl ?_
        refine a_aload_n C dX3_readVerb_24 5 rfl ?_
        refine a_aload C dX3_readVerb_25 0 rfl ?_
        refine a_getVw C (v := i) (by first | assumption | omega) (by decide +kernel) dX3_readVerb_27 ?_
        refine a_callV C (k := 168) (As := [.ref (x_e G 2 i)]) (rest := []) (c_T_matchingLength l G d tx L hL hln htx ht7 pp hp hpL i hlt) (cwV 1 C.1.2.2.2.2 gX3_readVerb_X3_matchingLength rfl rfl rfl (by decide +kernel) ⟨Nat.le_of_ble_eq_true rfl, Nat.le_of_ble_eq_true rfl⟩) x_k168 (q := (RX3, TX3, 7)) rfl rfl rfl rfl (Nat.le_of_ble_eq_true rfl) dX3_readVerb_30 ⟨Nat.le_of_ble_eq_true rfl, Nat.le_of_ble_eq_true rfl⟩ ?_
        refine a_istore C dX3_readVerb_33 (by decide) (lst2 := [(6, .int (nI (tp_ml tx L pp i))), (5, .ref (x_e G 0 i)), (4, .int (nI i)), (3, .int 13), (2, .ref (x_e G 4 0)), (1, .int (nI (tp_mx tx L pp i))), (0, .ref (x_b G + 168))]) rfl ?_
        refine a_iload C dX3_readVerb_35 0 rfl ?_
        refine a_aload C dX3_readVerb_37 1 rfl ?_
        refine a_getVw C (v := i) (by first | assumption | omega) (by decide +kernel) dX3_readVerb_39 ?_
        refine a_callR C (b := x_e G 2 i) (As := []) (rest := [.int (nI (tp_ml tx L pp i))]) (c_S_length l G d i (by omega)) (cwV 0 C.1.2.2.2.2 gX3_readVerb_J0_length_8abf5 rfl rfl rfl (by decide +kernel) ⟨Nat.le_of_ble_eq_true rfl, Nat.le_of_ble_eq_true rfl⟩) (x_recS C (by first | assumption | omega)) rfl rfl (Nat.le_of_ble_eq_true rfl) dX3_readVerb_42 ⟨Nat.le_of_ble_eq_true rfl, Nat.le_of_ble_eq_true rfl⟩ ?_
        refine a_icmp_ne C dX3_readVerb_45 (tgt := 62) (by decide) (fun h45 => ?_) (fun h45 => ?_)
        · skip
          have hnm : ¬ tp_ml tx L pp i = x_wL i := fun z => h45 (congrArg nI z)
          refine a_iload_n C dX3_readVerb_62 5 rfl ?_
          refine a_iload C dX3_readVerb_63 0 rfl ?_
          refine a_mmax C (by decide +kernel) (by decide +kernel) (by decide +kernel) (by decide +kernel) (Nat.le_of_ble_eq_true rfl) (Nat.le_of_ble_eq_true rfl) (Nat.le_of_ble_eq_true rfl) (Nat.le_of_ble_eq_true rfl) dX3_readVerb_65 ?_
          refine a_top (y := (nI (tp_mx tx L pp (i + 1)))) (x_max (by omega) (by omega)) ?_
          refine a_istore_n C dX3_readVerb_68 (by decide) (lst2 := [(1, .int (nI (tp_mx tx L pp (i + 1)))), (6, .int (nI (tp_ml tx L pp i))), (5, .ref (x_e G 0 i)), (4, .int (nI i)), (3, .int 13), (2, .ref (x_e G 4 0)), (0, .ref (x_b G + 168))]) rfl ?_
          refine a_iinc C dX3_readVerb_69 3 rfl (v := (nI (i + 1))) (x_inc i) (by decide) (lst2 := [(4, .int (nI (i + 1))), (1, .int (nI (tp_mx tx L pp (i + 1)))), (6, .int (nI (tp_ml tx L pp i))), (5, .ref (x_e G 0 i)), (3, .int 13), (2, .ref (x_e G 4 0)), (0, .ref (x_b G + 168))]) rfl ?_
          refine a_goto C dX3_readVerb_72 (tgt := 12) (by decide) ?_
          refine a_sub (lst2 := [(4, .int (nI (i + 1))), (3, .int 13), (2, .ref (x_e G 4 0)), (1, .int (nI (tp_mx tx L pp (i + 1)))), (0, .ref (x_b G + 168))]) [0, 4, 5, 1, 6] rfl ?_
          exact ih (i + 1) (by omega) (by omega) (x_alls hq hnm)
        · skip
          have heq : tp_ml tx L pp i = x_wL i := (nI_eq (by omega) (by omega)).mp h45
          have hiv : i = v := (tp_fv_yes tx L pp i hlt hq heq 13 hlt).symm.trans hvb
          refine a_aload_n C dX3_readVerb_48 6 rfl ?_
          refine a_dup C dX3_readVerb_49 rfl ?_
          refine a_getI C (k := 168) iX3 x_k168 rfl (j := 2) rfl (by decide) (by decide +kernel) dX3_readVerb_50 ?_
          refine a_top (y := (nI pp)) hp ?_
          refine a_iload C dX3_readVerb_53 0 rfl ?_
          refine a_iadd C dX3_readVerb_55 ?_
          refine a_top (y := (nI (pp + x_wL i))) (by rw [h45]; exact nI_add _ _) ?_
          refine a_putI C (k := 168) iX3 tyX3_ok nmX3 x_k168 rfl (j := 2) rfl (by decide) (by decide +kernel) rfl (ty := .int) (by decide +kernel) rfl rfl dX3_readVerb_56 ?_
          refine a_aload C dX3_readVerb_59 1 rfl ?_
          exact a_aret C hlocks hr dX3_readVerb_61 (congrArg (x_e G 0) hiv) (by rw [hiv])
  refine a_sub (lst2 := [(4, .int 0), (3, .int 13), (2, .ref (x_e G 4 0)), (1, .int 0), (0, .ref (x_b G + 168))]) [0, 1, 2, 3, 4] rfl ?_
  exact L12 (13 + 1) 0 (by omega) (by omega) (fun j hj => absurd hj (Nat.not_lt_zero j))

set_option maxHeartbeats 1000000 in
set_option maxRecDepth 100000 in
theorem c_T_readVerb_f (l : Launch) (G : xG) (d : xd) (tx : Nat → Nat) (L : Nat) (hL : L ≤ 60) (hln : d 168 1 = nI L) (htx : ∀ j, j < L → d 169 j = nI (tx j)) (ht7 : ∀ j, j < L → tx j < 128) (pp : Nat) (hp : d 168 2 = nI pp) (hpL : pp ≤ L) (hvb : tp_vb tx L pp = 13) : x_M G l yX3_readVerb wsX3_readVerb 6 0 0 [.ref (x_b G + 168)] d (some (.null)) (x_p d 168 2 (nI (pp + tp_mx tx L pp 13))) := by
  have iX3 : ∀ w ∈ u_ws RX3 TX3 7, w ∈ wsX3_readVerb := by decide +kernel
  refine x_start (cc := cX3_readVerb) (maxL := 7) (ret := (some (.object "LampCooperative$Verb"))) (own := RX3) (by decide) rfl rfl (Nat.le_of_ble_eq_true rfl) (lst := [(0, .ref (x_b G + 168))]) rfl ?_
  intro p e s m args below meth c C hr hlocks
  refine a_iconst C dX3_readVerb_0 (v := 0) (by decide) ?_
  refine a_istore_n C dX3_readVerb_1 (by decide) (lst2 := [(1, .int 0), (0, .ref (x_b G + 168))]) rfl ?_
  refine a_getsVB C (by decide +kernel) dX3_readVerb_2 ?_
  refine a_astore_n C dX3_readVerb_5 (by decide) (lst2 := [(2, .ref (x_e G 4 0)), (1, .int 0), (0, .ref (x_b G + 168))]) rfl ?_
  refine a_aload_n C dX3_readVerb_6 0 rfl ?_
  refine a_alenVB C dX3_readVerb_7 ?_
  refine a_istore_n C dX3_readVerb_8 (by decide) (lst2 := [(3, .int 13), (2, .ref (x_e G 4 0)), (1, .int 0), (0, .ref (x_b G + 168))]) rfl ?_
  refine a_iconst C dX3_readVerb_9 (v := 0) (by decide) ?_
  refine a_istore C dX3_readVerb_10 (by decide) (lst2 := [(4, .int 0), (3, .int 13), (2, .ref (x_e G 4 0)), (1, .int 0), (0, .ref (x_b G + 168))]) rfl ?_
  have L12 : ∀ (j i : Nat), i ≤ 13 → 13 < i + j → (∀ j, j < i → ¬ tp_ml tx L pp j = x_wL j) → Ab G p l e (x_rm 6 0 0) s m args below meth c 7 0 0 (MQ below (x_Q G (some (.null)) (x_p d 168 2 (nI (pp + tp_mx tx L pp 13)))) args s 0 0 (x_A G)) 12 [(4, .int (nI i)), (3, .int 13), (2, .ref (x_e G 4 0)), (1, .int (nI (tp_mx tx L pp i))), (0, .ref (x_b G + 168))] [] d := by
    intro j
    induction j with
    | zero => intro i h1 h2; exact absurd h2 (by omega)
    | succ j ih =>
      intro i hi hj hq
      have hmx := tp_mx_le tx L pp i (by omega)
      refine a_iload C dX3_readVerb_12 0 rfl ?_
      refine a_iload_n C dX3_readVerb_14 1 rfl ?_
      refine a_icmp_ge C dX3_readVerb_15 (tgt := 75) (by decide) (fun h15 => ?_) (fun h15 => ?_)
      · skip
        have e := x_ge (n := 13) h15 hi (by omega)
        have e9 := e.symm
        subst e9
        clear e
        refine a_aload_n C dX3_readVerb_75 4 rfl ?_
        refine a_dup C dX3_readVerb_76 rfl ?_
        refine a_getI C (k := 168) iX3 x_k168 rfl (j := 2) rfl (by decide) (by decide +kernel) dX3_readVerb_77 ?_
        refine a_top (y := (nI pp)) hp ?_
        refine a_iload_n C dX3_readVerb_80 3 rfl ?_
        refine a_iadd C dX3_readVerb_81 ?_
        refine a_top (y := (nI (pp + tp_mx tx L pp 13))) (nI_add _ _) ?_
        refine a_putI C (k := 168) iX3 tyX3_ok nmX3 x_k168 rfl (j := 2) rfl (by decide) (by decide +kernel) rfl (ty := .int) (by decide +kernel) rfl rfl dX3_readVerb_82 ?_
        refine a_null C dX3_readVerb_85 ?_
        exact a_aretN C hlocks hr dX3_readVerb_86 rfl
      · skip
        have hlt := x_nge (n := 13) h15 hi
        have hwl := x_wL_lt i hlt
        have hml2 : tp_ml tx L pp i ≤ x_wL i := tp_mg_le tx L pp i (x_wL i)
        refine a_aload_n C dX3_readVerb_18 2 rfl ?_
        refine a_iload C dX3_readVerb_19 0 rfl ?_
        refine a_aaldVB C (i := i) rfl (by omega) dX3_readVerb_21 ?_
        refine a_astore C dX3_readVerb_22 (by decide) (lst2 := [(5, .ref (x_e G 0 i)), (4, .int (nI i)), (3, .int 13), (2, .ref (x_e G 4 0)), (1, .int (nI (tp_mx tx L pp i))), (0, .ref (x_b G + 168))]) rfl ?_
        refine a_aload_n C dX3_readVerb_24 5 rfl ?_
        refine a_aload C dX3_readVerb_25 0 rfl ?_
        refine a_getVw C (v := i) (by first | assumption | omega) (by decide +kernel) dX3_readVerb_27 ?_
        refine a_callV C (k := 168) (As := [.ref (x_e G 2 i)]) (rest := []) (c_T_matchingLength l G d tx L hL hln htx ht7 pp hp hpL i hlt) (cwV 1 C.1.2.2.2.2 gX3_readVerb_X3_matchingLength rfl rfl rfl (by decide +kernel) ⟨Nat.le_of_ble_eq_true rfl, Nat.le_of_ble_eq_true rfl⟩) x_k168 (q := (RX3, TX3, 7)) rfl rfl rfl rfl (Nat.le_of_ble_eq_true rfl) dX3_readVerb_30 ⟨Nat.le_of_ble_eq_true rfl, Nat.le_of_ble_eq_true rfl⟩ ?_
        refine a_istore C dX3_readVerb_33 (by decide) (lst2 := [(6, .int (nI (tp_ml tx L pp i))), (5, .ref (x_e G 0 i)), (4, .int (nI i)), (3, .int 13), (2, .ref (x_e G 4 0)), (1, .int (nI (tp_mx tx L pp i))), (0, .ref (x_b G + 168))]) rfl ?_
        refine a_iload C dX3_readVerb_35 0 rfl ?_
        refine a_aload C dX3_readVerb_37 1 rfl ?_
        refine a_getVw C (v := i) (by first | assumption | omega) (by decide +kernel) dX3_readVerb_39 ?_
        refine a_callR C (b := x_e G 2 i) (As := []) (rest := [.int (nI (tp_ml tx L pp i))]) (c_S_length l G d i (by omega)) (cwV 0 C.1.2.2.2.2 gX3_readVerb_J0_length_8abf5 rfl rfl rfl (by decide +kernel) ⟨Nat.le_of_ble_eq_true rfl, Nat.le_of_ble_eq_true rfl⟩) (x_recS C (by first | assumption | omega)) rfl rfl (Nat.le_of_ble_eq_true rfl) dX3_readVerb_42 ⟨Nat.le_of_ble_eq_true rfl, Nat.le_of_ble_eq_true rfl⟩ ?_
        refine a_icmp_ne C dX3_readVerb_45 (tgt := 62) (by decide) (fun h45 => ?_) (fun h45 => ?_)
        · skip
          have hnm : ¬ tp_ml tx L pp i = x_wL i := fun z => h45 (congrArg nI z)
          refine a_iload_n C dX3_readVerb_62 5 rfl ?_
          refine a_iload C dX3_readVerb_63 0 rfl ?_
          refine a_mmax C (by decide +kernel) (by decide +kernel) (by decide +kernel) (by decide +kernel) (Nat.le_of_ble_eq_true rfl) (Nat.le_of_ble_eq_true rfl) (Nat.le_of_ble_eq_true rfl) (Nat.le_of_ble_eq_true rfl) dX3_readVerb_65 ?_
          refine a_top (y := (nI (tp_mx tx L pp (i + 1)))) (x_max (by omega) (by omega)) ?_
          refine a_istore_n C dX3_readVerb_68 (by decide) (lst2 := [(1, .int (nI (tp_mx tx L pp (i + 1)))), (6, .int (nI (tp_ml tx L pp i))), (5, .ref (x_e G 0 i)), (4, .int (nI i)), (3, .int 13), (2, .ref (x_e G 4 0)), (0, .ref (x_b G + 168))]) rfl ?_
          refine a_iinc C dX3_readVerb_69 3 rfl (v := (nI (i + 1))) (x_inc i) (by decide) (lst2 := [(4, .int (nI (i + 1))), (1, .int (nI (tp_mx tx L pp (i + 1)))), (6, .int (nI (tp_ml tx L pp i))), (5, .ref (x_e G 0 i)), (3, .int 13), (2, .ref (x_e G 4 0)), (0, .ref (x_b G + 168))]) rfl ?_
          refine a_goto C dX3_readVerb_72 (tgt := 12) (by decide) ?_
          refine a_sub (lst2 := [(4, .int (nI (i + 1))), (3, .int 13), (2, .ref (x_e G 4 0)), (1, .int (nI (tp_mx tx L pp (i + 1)))), (0, .ref (x_b G + 168))]) [0, 4, 5, 1, 6] rfl ?_
          exact ih (i + 1) (by omega) (by omega) (x_alls hq hnm)
        · skip
          have heq : tp_ml tx L pp i = x_wL i := (nI_eq (by omega) (by omega)).mp h45
          exact absurd hlt (by rw [(tp_fv_yes tx L pp i hlt hq heq 13 hlt).symm.trans hvb]; omega)
  refine a_sub (lst2 := [(4, .int 0), (3, .int 13), (2, .ref (x_e G 4 0)), (1, .int 0), (0, .ref (x_b G + 168))]) [0, 1, 2, 3, 4] rfl ?_
  exact L12 (13 + 1) 0 (by omega) (by omega) (fun j hj => absurd hj (Nat.not_lt_zero j))

set_option maxHeartbeats 1000000 in
set_option maxRecDepth 100000 in
theorem c_T_readCommand_0 (l : Launch) (G : xG) (d : xd) (tx : Nat → Nat) (L : Nat) (hL : L ≤ 60) (hln : d 168 1 = nI L) (htx : ∀ j, j < L → d 169 j = nI (tx j)) (ht7 : ∀ j, j < L → tx j < 128) (pp : Nat) (hp : d 168 2 = nI pp) (hpL : pp ≤ L) (c9 : Nat) (hc9 : c9 < 15) (hvb : tp_vb tx L pp = 13) : x_M G l yX3_readCommand wsX3_readCommand 7 0 0 [.ref (x_b G + 168), .int (nI c9)] d (some (.int 0)) (x_p d 168 2 (nI (pp + tp_mx tx L pp 13))) := by
  refine x_start (cc := cX3_readCommand) (maxL := 7) (ret := (some .boolean)) (own := RX3) (by decide) rfl rfl (Nat.le_of_ble_eq_true rfl) (lst := [(0, .ref (x_b G + 168)), (1, .int (nI c9))]) rfl ?_
  intro p e s m args below meth c C hr hlocks
  refine a_aload_n C dX3_readCommand_0 0 rfl ?_
  refine a_callV C (k := 168) (As := []) (rest := []) (c_T_readVerb_f l G d tx L hL hln htx ht7 pp hp hpL hvb) (cwV 0 C.1.2.2.2.2 gX3_readCommand_X3_readVerb rfl rfl rfl (by decide +kernel) ⟨Nat.le_of_ble_eq_true rfl, Nat.le_of_ble_eq_true rfl⟩) x_k168 (q := (RX3, TX3, 7)) rfl rfl rfl rfl (Nat.le_of_ble_eq_true rfl) dX3_readCommand_1 ⟨Nat.le_of_ble_eq_true rfl, Nat.le_of_ble_eq_true rfl⟩ ?_
  refine a_astore_nN C dX3_readCommand_4 (by decide) (lst2 := [(2, .null), (0, .ref (x_b G + 168)), (1, .int (nI c9))]) rfl ?_
  refine a_aload_nN C dX3_readCommand_5 0 rfl ?_
  refine a_ifnonnullN C dX3_readCommand_6 ?_
  refine a_iconst C dX3_readCommand_9 (v := 0) (by decide) ?_
  exact a_zret C hlocks hr rfl dX3_readCommand_10 rfl rfl

theorem x_one {i : Nat} (h : ¬ nI i = 0) (h2 : i < 2) : i = 1 := by
  have : ¬ i = 0 := fun z => h (by rw [z]; rfl)
  omega
theorem x_and_of {a b : Bool} (h : (a && b) = true) : a = true ∧ b = true := by
  cases a <;> cases b <;> simp_all
theorem x_and_to {a b : Bool} (h1 : a = true) (h2 : b = true) : (a && b) = true := by rw [h1, h2]; rfl
theorem tp_vp_0 {tx : Nat → Nat} {L pp w : Nat} (hc : ¬ tp_c tx L pp 32 = true) : tp_vp tx L pp w = pp := by
  unfold tp_vp
  rw [if_neg hc]
theorem tp_vp_1 {tx : Nat → Nat} {L pp w : Nat} (hc : tp_c tx L pp 32 = true) (hd : ¬ tp_dg tx L (pp + 1) = true) : tp_vp tx L pp w = pp + 1 := by
  unfold tp_vp
  rw [if_pos hc, if_neg hd]
theorem tp_vb_in {tx : Nat → Nat} {L pp v : Nat} (hp : pp ≤ L) (hv : v < 13) (h : tp_vb tx L pp = v) : pp + x_wL v ≤ L := by
  rcases tp_fv_cases tx L pp 13 (Nat.le_refl 13) with z | z
  · have e : tp_vb tx L pp = 13 := z.1
    omega
  · have e : tp_ml tx L pp v = x_wL v := by rw [← h]; exact z.2.1
    have h2 := tp_mg_in tx L pp v (x_wL v)
    have e2 : tp_mg tx L pp v (x_wL v) = x_wL v := e
    rw [e2] at h2
    have h3 := x_wL_lt v hv
    omega

set_option maxHeartbeats 1000000 in
set_option maxRecDepth 100000 in
theorem c_T_readCommand_t (l : Launch) (G : xG) (d : xd) (tx : Nat → Nat) (L : Nat) (hL : L ≤ 60) (hln : d 168 1 = nI L) (htx : ∀ j, j < L → d 169 j = nI (tx j)) (ht7 : ∀ j, j < L → tx j < 128) (pp : Nat) (hp : d 168 2 = nI pp) (hpL : pp ≤ L) (c9 : Nat) (hc9 : c9 < 15) (v : Nat) (hv : v < 13) (hvb : tp_vb tx L pp = v) (haf : tp_af tx L v (pp + x_wL v) (tp_vn v) = tp_vn v) : x_M G l yX3_readCommand wsX3_readCommand 7 0 0 [.ref (x_b G + 168), .int (nI c9)] d (some (.int 1)) (t_w d (nI (tp_ap tx L v (pp + x_wL v) (tp_vn v))) c9 (nI (v + 1)) (nI (tp_r1 tx L v (pp + x_wL v) (tp_vn v))) (nI (tp_r2 tx L v (pp + x_wL v) (tp_vn v)))) := by
  have hvd := tp_vd_ok v hv
  have hwl := x_wL_lt v hv
  have hqL : (pp + x_wL v) ≤ L := tp_vb_in hpL hv hvb
  have iX3 : ∀ w ∈ u_ws RX3 TX3 7, w ∈ wsX3_readCommand := by decide +kernel
  refine x_start (cc := cX3_readCommand) (maxL := 7) (ret := (some .boolean)) (own := RX3) (by decide) rfl rfl (Nat.le_of_ble_eq_true rfl) (lst := [(0, .ref (x_b G + 168)), (1, .int (nI c9))]) rfl ?_
  intro p e s m args below meth c C hr hlocks
  refine a_aload_n C dX3_readCommand_0 0 rfl ?_
  refine a_callV C (k := 168) (As := []) (rest := []) (c_T_readVerb_t l G d tx L hL hln htx ht7 pp hp hpL v hv hvb) (cwV 0 C.1.2.2.2.2 gX3_readCommand_X3_readVerb rfl rfl rfl (by decide +kernel) ⟨Nat.le_of_ble_eq_true rfl, Nat.le_of_ble_eq_true rfl⟩) x_k168 (q := (RX3, TX3, 7)) rfl rfl rfl rfl (Nat.le_of_ble_eq_true rfl) dX3_readCommand_1 ⟨Nat.le_of_ble_eq_true rfl, Nat.le_of_ble_eq_true rfl⟩ ?_
  refine a_astore_n C dX3_readCommand_4 (by decide) (lst2 := [(2, .ref (x_e G 0 v)), (0, .ref (x_b G + 168)), (1, .int (nI c9))]) rfl ?_
  refine a_aload_n C dX3_readCommand_5 0 rfl ?_
  refine a_ifnonnull C dX3_readCommand_6 (tgt := 11) (by decide) ?_
  refine a_aload_n C dX3_readCommand_11 1 rfl ?_
  refine a_getR C (k := 168) iX3 x_k168 rfl (j := 4) rfl (by decide) (by decide +kernel) dX3_readCommand_12 ?_
  refine a_iload_n C dX3_readCommand_15 2 rfl ?_
  refine a_aload_n C dX3_readCommand_16 0 rfl ?_
  refine a_aastV C (k := 170) x_k170 (i := c9) rfl (by omega) (by decide) (v := v) (by first | assumption | omega) dX3_readCommand_17 ?_
  refine a_aload_n C dX3_readCommand_18 1 rfl ?_
  refine a_getR C (k := 168) iX3 x_k168 rfl (j := 5) rfl (by decide) (by decide +kernel) dX3_readCommand_19 ?_
  refine a_iload_n C dX3_readCommand_22 2 rfl ?_
  refine a_iconst C dX3_readCommand_23 (v := 0) (by decide) ?_
  refine a_iastN C (k := 171) x_k171 (i := c9) rfl (by omega) (by first | decide | omega) dX3_readCommand_24 ?_
  refine a_aload_n C dX3_readCommand_25 1 rfl ?_
  refine a_getR C (k := 168) iX3 x_k168 rfl (j := 6) rfl (by decide) (by decide +kernel) dX3_readCommand_26 ?_
  refine a_iload_n C dX3_readCommand_29 2 rfl ?_
  refine a_iconst C dX3_readCommand_30 (v := 0) (by decide) ?_
  refine a_iastN C (k := 172) x_k172 (i := c9) rfl (by omega) (by first | decide | omega) dX3_readCommand_31 ?_
  refine a_aload_n C dX3_readCommand_32 0 rfl ?_
  refine a_getVh C (v := v) (by first | assumption | omega) (by decide +kernel) dX3_readCommand_33 ?_
  refine a_if_eq C dX3_readCommand_36 (tgt := 48) (by decide) (fun h36 => ?_) (fun h36 => ?_)
  · skip
    refine a_aload_n C dX3_readCommand_48 0 rfl ?_
    refine a_getVd C (v := v) (by first | assumption | omega) (by decide +kernel) dX3_readCommand_49 ?_
    refine a_top (y := (nI (tp_vd v))) hvd.1 ?_
    refine a_top (y := nI (tp_vn v)) (congrArg nI (by unfold tp_vn; rw [if_pos h36])) ?_
    refine a_istore_n C dX3_readCommand_52 (by decide) (lst2 := [(3, .int (nI (tp_vn v))), (2, .ref (x_e G 0 v)), (0, .ref (x_b G + 168)), (1, .int (nI c9))]) rfl ?_
    refine a_iconst C dX3_readCommand_53 (v := 0) (by decide) ?_
    refine a_istore C dX3_readCommand_54 (by decide) (lst2 := [(4, .int 0), (3, .int (nI (tp_vn v))), (2, .ref (x_e G 0 v)), (0, .ref (x_b G + 168)), (1, .int (nI c9))]) rfl ?_
    have L56 : ∀ (j i : Nat), i ≤ (tp_vn v) → (tp_vn v) < i + j → tp_af tx L v (pp + x_wL v) i = i → Ab G p l e (x_rm 7 0 0) s m args below meth c 7 0 0 (MQ below (x_Q G (some (.int 1)) (t_w d (nI (tp_ap tx L v (pp + x_wL v) (tp_vn v))) c9 (nI (v + 1)) (nI (tp_r1 tx L v (pp + x_wL v) (tp_vn v))) (nI (tp_r2 tx L v (pp + x_wL v) (tp_vn v))))) args s 0 0 (x_A G)) 56 [(4, .int (nI i)), (3, .int (nI (tp_vn v))), (2, .ref (x_e G 0 v)), (0, .ref (x_b G + 168)), (1, .int (nI c9))] [] (t_w d (nI (tp_ap tx L v (pp + x_wL v) i)) c9 (nI (v + 1)) (nI (tp_r1 tx L v (pp + x_wL v) i)) (nI (tp_r2 tx L v (pp + x_wL v) i))) := by
      intro j
      induction j with
      | zero => intro i h1 h2; exact absurd h2 (by omega)
      | succ j ih =>
        intro i hi hj hq
        refine a_iload C dX3_readCommand_56 0 rfl ?_
        refine a_iload_n C dX3_readCommand_58 1 rfl ?_
        refine a_icmp_ge C dX3_readCommand_59 (tgt := 123) (by decide) (fun h59 => ?_) (fun h59 => ?_)
        · skip
          have e := x_ge h59 hi (by omega)
          have e9 := e.symm
          subst e9
          clear e
          refine a_iconst C dX3_readCommand_123 (v := 1) (by decide) ?_
          exact a_zret C hlocks hr rfl dX3_readCommand_124 rfl rfl
        · skip
          have hlt := x_nge h59 hi
          refine a_iload C dX3_readCommand_62 0 rfl ?_
          refine a_aload_n C dX3_readCommand_64 2 rfl ?_
          refine a_getVd C (v := v) (by first | assumption | omega) (by decide +kernel) dX3_readCommand_65 ?_
          refine a_top (y := (nI (tp_vd v))) hvd.1 ?_
          refine a_icmp_ge C dX3_readCommand_68 (tgt := 75) (by decide) (fun h68 => ?_) (fun h68 => ?_)
          · skip
            refine a_iconst C dX3_readCommand_75 (v := 3) (by decide) ?_
            refine a_top (y := nI (tp_m v i)) (congrArg nI (by unfold tp_m; rw [if_neg (fun z => nI_ge z (by omega) h68)])) ?_
            refine a_istore C dX3_readCommand_76 (by decide) (lst2 := [(5, .int (nI (tp_m v i))), (4, .int (nI i)), (3, .int (nI (tp_vn v))), (2, .ref (x_e G 0 v)), (0, .ref (x_b G + 168)), (1, .int (nI c9))]) rfl ?_
            refine a_aload_n C dX3_readCommand_78 4 rfl ?_
            refine a_iload C dX3_readCommand_79 0 rfl ?_
            have hap : tp_ap tx L v (pp + x_wL v) i ≤ L := tp_ap_le hqL i
            by_cases hvo : tp_vo tx L (tp_ap tx L v (pp + x_wL v) i) = true
            · skip
              obtain ⟨hc, hd⟩ := x_and_of hvo
              refine a_callV C (k := 168) (As := [.int (nI (tp_m v i))]) (rest := []) (c_T_readValue_2 l G (t_w d (nI (tp_ap tx L v (pp + x_wL v) i)) c9 (nI (v + 1)) (nI (tp_r1 tx L v (pp + x_wL v) i)) (nI (tp_r2 tx L v (pp + x_wL v) i))) tx L hL (t_w_1 (by omega) |>.trans hln) (fun j hj => by rw [t_w_out (by omega) (by omega)]; exact htx j hj) ht7 (tp_ap tx L v (pp + x_wL v) i) t_w_2 hap (tp_m v i) (tp_m_le v i).2 hc hd) (cwV 1 C.1.2.2.2.2 gX3_readCommand_X3_readValue rfl rfl rfl (by decide +kernel) ⟨Nat.le_of_ble_eq_true rfl, Nat.le_of_ble_eq_true rfl⟩) x_k168 (q := (RX3, TX3, 7)) rfl rfl rfl rfl (Nat.le_of_ble_eq_true rfl) dX3_readCommand_81 ⟨Nat.le_of_ble_eq_true rfl, Nat.le_of_ble_eq_true rfl⟩ ?_
              refine a_toD (d2 := t_w d (nI (tp_ap tx L v (pp + x_wL v) (i + 1))) c9 (nI (v + 1)) (nI (tp_r1 tx L v (pp + x_wL v) i)) (nI (tp_r2 tx L v (pp + x_wL v) i))) t_w_p ?_
              refine a_istore C dX3_readCommand_84 (by decide) (lst2 := [(6, .int (nI (tp_vv tx L (tp_ap tx L v (pp + x_wL v) i) (tp_m v i)))), (5, .int (nI (tp_m v i))), (4, .int (nI i)), (3, .int (nI (tp_vn v))), (2, .ref (x_e G 0 v)), (0, .ref (x_b G + 168)), (1, .int (nI c9))]) rfl ?_
              refine a_iload C dX3_readCommand_86 0 rfl ?_
              refine a_if_ge C dX3_readCommand_88 (tgt := 93) (by decide) (fun h88 => ?_) (fun h => False.elim (h (nI_pos' (by have := tp_vv_lt tx L (tp_ap tx L v (pp + x_wL v) i) (tp_m v i) (tp_m_le v i).2; omega))))
              refine a_iload C dX3_readCommand_93 2 rfl ?_
              refine a_if_ne C dX3_readCommand_95 (tgt := 109) (by decide) (fun h95 => ?_) (fun h95 => ?_)
              · skip
                have hi1 : i = 1 := x_one h95 (by omega)
                refine a_aload_n C dX3_readCommand_109 5 rfl ?_
                refine a_getR C (k := 168) iX3 x_k168 rfl (j := 6) rfl (by decide) (by decide +kernel) dX3_readCommand_110 ?_
                refine a_iload_n C dX3_readCommand_113 6 rfl ?_
                refine a_iload C dX3_readCommand_114 0 rfl ?_
                refine a_iastN C (k := 172) x_k172 (i := c9) rfl (by omega) (by first | decide | omega) dX3_readCommand_116 ?_
                refine a_toD (d2 := t_w d (nI (tp_ap tx L v (pp + x_wL v) (i + 1))) c9 (nI (v + 1)) (nI (tp_r1 tx L v (pp + x_wL v) (i + 1))) (nI (tp_r2 tx L v (pp + x_wL v) (i + 1)))) (by rw [t_w_b]; subst hi1; rfl) ?_
                refine a_iinc C dX3_readCommand_117 2 rfl (v := (nI (i + 1))) (x_inc i) (by decide) (lst2 := [(4, .int (nI (i + 1))), (6, .int (nI (tp_vv tx L (tp_ap tx L v (pp + x_wL v) i) (tp_m v i)))), (5, .int (nI (tp_m v i))), (3, .int (nI (tp_vn v))), (2, .ref (x_e G 0 v)), (0, .ref (x_b G + 168)), (1, .int (nI c9))]) rfl ?_
                refine a_goto C dX3_readCommand_120 (tgt := 56) (by decide) ?_
                refine a_sub (lst2 := [(4, .int (nI (i + 1))), (3, .int (nI (tp_vn v))), (2, .ref (x_e G 0 v)), (0, .ref (x_b G + 168)), (1, .int (nI c9))]) [0, 3, 4, 5, 6] rfl ?_
                refine a_to (lst2 := [(4, .int (nI ((i + 1)))), (3, .int (nI (tp_vn v))), (2, .ref (x_e G 0 v)), (0, .ref (x_b G + 168)), (1, .int (nI c9))]) (st2 := []) (d2 := t_w d (nI (tp_ap tx L v (pp + x_wL v) ((i + 1)))) c9 (nI (v + 1)) (nI (tp_r1 tx L v (pp + x_wL v) ((i + 1)))) (nI (tp_r2 tx L v (pp + x_wL v) ((i + 1))))) rfl rfl rfl ?_
                exact ih (i + 1) (by omega) (by omega) (by rw [tp_af, if_pos ⟨hq, hvo⟩])
              · skip
                have hi0 : i = 0 := (nI_eq (b := 0) (by omega) (by omega)).mp h95
                refine a_aload_n C dX3_readCommand_98 5 rfl ?_
                refine a_getR C (k := 168) iX3 x_k168 rfl (j := 5) rfl (by decide) (by decide +kernel) dX3_readCommand_99 ?_
                refine a_iload_n C dX3_readCommand_102 6 rfl ?_
                refine a_iload C dX3_readCommand_103 0 rfl ?_
                refine a_iastN C (k := 171) x_k171 (i := c9) rfl (by omega) (by first | decide | omega) dX3_readCommand_105 ?_
                refine a_toD (d2 := t_w d (nI (tp_ap tx L v (pp + x_wL v) (i + 1))) c9 (nI (v + 1)) (nI (tp_r1 tx L v (pp + x_wL v) (i + 1))) (nI (tp_r2 tx L v (pp + x_wL v) (i + 1)))) (by rw [t_w_a]; subst hi0; rfl) ?_
                refine a_goto C dX3_readCommand_106 (tgt := 117) (by decide) ?_
                refine a_iinc C dX3_readCommand_117 2 rfl (v := (nI (i + 1))) (x_inc i) (by decide) (lst2 := [(4, .int (nI (i + 1))), (6, .int (nI (tp_vv tx L (tp_ap tx L v (pp + x_wL v) i) (tp_m v i)))), (5, .int (nI (tp_m v i))), (3, .int (nI (tp_vn v))), (2, .ref (x_e G 0 v)), (0, .ref (x_b G + 168)), (1, .int (nI c9))]) rfl ?_
                refine a_goto C dX3_readCommand_120 (tgt := 56) (by decide) ?_
                refine a_sub (lst2 := [(4, .int (nI (i + 1))), (3, .int (nI (tp_vn v))), (2, .ref (x_e G 0 v)), (0, .ref (x_b G + 168)), (1, .int (nI c9))]) [0, 3, 4, 5, 6] rfl ?_
                refine a_to (lst2 := [(4, .int (nI ((i + 1)))), (3, .int (nI (tp_vn v))), (2, .ref (x_e G 0 v)), (0, .ref (x_b G + 168)), (1, .int (nI c9))]) (st2 := []) (d2 := t_w d (nI (tp_ap tx L v (pp + x_wL v) ((i + 1)))) c9 (nI (v + 1)) (nI (tp_r1 tx L v (pp + x_wL v) ((i + 1)))) (nI (tp_r2 tx L v (pp + x_wL v) ((i + 1))))) rfl rfl rfl ?_
                exact ih (i + 1) (by omega) (by omega) (by rw [tp_af, if_pos ⟨hq, hvo⟩])
            · skip
              exact absurd haf (by rw [tp_af_stop tx L v (pp + x_wL v) i hvo hq (tp_vn v) (by omega)]; omega)
          · skip
            refine a_iconst C dX3_readCommand_71 (v := 1) (by decide) ?_
            refine a_goto C dX3_readCommand_72 (tgt := 76) (by decide) ?_
            refine a_top (y := nI (tp_m v i)) (congrArg nI (by unfold tp_m; rw [if_pos (Nat.lt_of_not_le (fun z => h68 (nI_le z (by omega))))])) ?_
            refine a_istore C dX3_readCommand_76 (by decide) (lst2 := [(5, .int (nI (tp_m v i))), (4, .int (nI i)), (3, .int (nI (tp_vn v))), (2, .ref (x_e G 0 v)), (0, .ref (x_b G + 168)), (1, .int (nI c9))]) rfl ?_
            refine a_aload_n C dX3_readCommand_78 4 rfl ?_
            refine a_iload C dX3_readCommand_79 0 rfl ?_
            have hap : tp_ap tx L v (pp + x_wL v) i ≤ L := tp_ap_le hqL i
            by_cases hvo : tp_vo tx L (tp_ap tx L v (pp + x_wL v) i) = true
            · skip
              obtain ⟨hc, hd⟩ := x_and_of hvo
              refine a_callV C (k := 168) (As := [.int (nI (tp_m v i))]) (rest := []) (c_T_readValue_2 l G (t_w d (nI (tp_ap tx L v (pp + x_wL v) i)) c9 (nI (v + 1)) (nI (tp_r1 tx L v (pp + x_wL v) i)) (nI (tp_r2 tx L v (pp + x_wL v) i))) tx L hL (t_w_1 (by omega) |>.trans hln) (fun j hj => by rw [t_w_out (by omega) (by omega)]; exact htx j hj) ht7 (tp_ap tx L v (pp + x_wL v) i) t_w_2 hap (tp_m v i) (tp_m_le v i).2 hc hd) (cwV 1 C.1.2.2.2.2 gX3_readCommand_X3_readValue rfl rfl rfl (by decide +kernel) ⟨Nat.le_of_ble_eq_true rfl, Nat.le_of_ble_eq_true rfl⟩) x_k168 (q := (RX3, TX3, 7)) rfl rfl rfl rfl (Nat.le_of_ble_eq_true rfl) dX3_readCommand_81 ⟨Nat.le_of_ble_eq_true rfl, Nat.le_of_ble_eq_true rfl⟩ ?_
              refine a_toD (d2 := t_w d (nI (tp_ap tx L v (pp + x_wL v) (i + 1))) c9 (nI (v + 1)) (nI (tp_r1 tx L v (pp + x_wL v) i)) (nI (tp_r2 tx L v (pp + x_wL v) i))) t_w_p ?_
              refine a_istore C dX3_readCommand_84 (by decide) (lst2 := [(6, .int (nI (tp_vv tx L (tp_ap tx L v (pp + x_wL v) i) (tp_m v i)))), (5, .int (nI (tp_m v i))), (4, .int (nI i)), (3, .int (nI (tp_vn v))), (2, .ref (x_e G 0 v)), (0, .ref (x_b G + 168)), (1, .int (nI c9))]) rfl ?_
              refine a_iload C dX3_readCommand_86 0 rfl ?_
              refine a_if_ge C dX3_readCommand_88 (tgt := 93) (by decide) (fun h88 => ?_) (fun h => False.elim (h (nI_pos' (by have := tp_vv_lt tx L (tp_ap tx L v (pp + x_wL v) i) (tp_m v i) (tp_m_le v i).2; omega))))
              refine a_iload C dX3_readCommand_93 2 rfl ?_
              refine a_if_ne C dX3_readCommand_95 (tgt := 109) (by decide) (fun h95 => ?_) (fun h95 => ?_)
              · skip
                have hi1 : i = 1 := x_one h95 (by omega)
                refine a_aload_n C dX3_readCommand_109 5 rfl ?_
                refine a_getR C (k := 168) iX3 x_k168 rfl (j := 6) rfl (by decide) (by decide +kernel) dX3_readCommand_110 ?_
                refine a_iload_n C dX3_readCommand_113 6 rfl ?_
                refine a_iload C dX3_readCommand_114 0 rfl ?_
                refine a_iastN C (k := 172) x_k172 (i := c9) rfl (by omega) (by first | decide | omega) dX3_readCommand_116 ?_
                refine a_toD (d2 := t_w d (nI (tp_ap tx L v (pp + x_wL v) (i + 1))) c9 (nI (v + 1)) (nI (tp_r1 tx L v (pp + x_wL v) (i + 1))) (nI (tp_r2 tx L v (pp + x_wL v) (i + 1)))) (by rw [t_w_b]; subst hi1; rfl) ?_
                refine a_iinc C dX3_readCommand_117 2 rfl (v := (nI (i + 1))) (x_inc i) (by decide) (lst2 := [(4, .int (nI (i + 1))), (6, .int (nI (tp_vv tx L (tp_ap tx L v (pp + x_wL v) i) (tp_m v i)))), (5, .int (nI (tp_m v i))), (3, .int (nI (tp_vn v))), (2, .ref (x_e G 0 v)), (0, .ref (x_b G + 168)), (1, .int (nI c9))]) rfl ?_
                refine a_goto C dX3_readCommand_120 (tgt := 56) (by decide) ?_
                refine a_sub (lst2 := [(4, .int (nI (i + 1))), (3, .int (nI (tp_vn v))), (2, .ref (x_e G 0 v)), (0, .ref (x_b G + 168)), (1, .int (nI c9))]) [0, 3, 4, 5, 6] rfl ?_
                refine a_to (lst2 := [(4, .int (nI ((i + 1)))), (3, .int (nI (tp_vn v))), (2, .ref (x_e G 0 v)), (0, .ref (x_b G + 168)), (1, .int (nI c9))]) (st2 := []) (d2 := t_w d (nI (tp_ap tx L v (pp + x_wL v) ((i + 1)))) c9 (nI (v + 1)) (nI (tp_r1 tx L v (pp + x_wL v) ((i + 1)))) (nI (tp_r2 tx L v (pp + x_wL v) ((i + 1))))) rfl rfl rfl ?_
                exact ih (i + 1) (by omega) (by omega) (by rw [tp_af, if_pos ⟨hq, hvo⟩])
              · skip
                have hi0 : i = 0 := (nI_eq (b := 0) (by omega) (by omega)).mp h95
                refine a_aload_n C dX3_readCommand_98 5 rfl ?_
                refine a_getR C (k := 168) iX3 x_k168 rfl (j := 5) rfl (by decide) (by decide +kernel) dX3_readCommand_99 ?_
                refine a_iload_n C dX3_readCommand_102 6 rfl ?_
                refine a_iload C dX3_readCommand_103 0 rfl ?_
                refine a_iastN C (k := 171) x_k171 (i := c9) rfl (by omega) (by first | decide | omega) dX3_readCommand_105 ?_
                refine a_toD (d2 := t_w d (nI (tp_ap tx L v (pp + x_wL v) (i + 1))) c9 (nI (v + 1)) (nI (tp_r1 tx L v (pp + x_wL v) (i + 1))) (nI (tp_r2 tx L v (pp + x_wL v) (i + 1)))) (by rw [t_w_a]; subst hi0; rfl) ?_
                refine a_goto C dX3_readCommand_106 (tgt := 117) (by decide) ?_
                refine a_iinc C dX3_readCommand_117 2 rfl (v := (nI (i + 1))) (x_inc i) (by decide) (lst2 := [(4, .int (nI (i + 1))), (6, .int (nI (tp_vv tx L (tp_ap tx L v (pp + x_wL v) i) (tp_m v i)))), (5, .int (nI (tp_m v i))), (3, .int (nI (tp_vn v))), (2, .ref (x_e G 0 v)), (0, .ref (x_b G + 168)), (1, .int (nI c9))]) rfl ?_
                refine a_goto C dX3_readCommand_120 (tgt := 56) (by decide) ?_
                refine a_sub (lst2 := [(4, .int (nI (i + 1))), (3, .int (nI (tp_vn v))), (2, .ref (x_e G 0 v)), (0, .ref (x_b G + 168)), (1, .int (nI c9))]) [0, 3, 4, 5, 6] rfl ?_
                refine a_to (lst2 := [(4, .int (nI ((i + 1)))), (3, .int (nI (tp_vn v))), (2, .ref (x_e G 0 v)), (0, .ref (x_b G + 168)), (1, .int (nI c9))]) (st2 := []) (d2 := t_w d (nI (tp_ap tx L v (pp + x_wL v) ((i + 1)))) c9 (nI (v + 1)) (nI (tp_r1 tx L v (pp + x_wL v) ((i + 1)))) (nI (tp_r2 tx L v (pp + x_wL v) ((i + 1))))) rfl rfl rfl ?_
                exact ih (i + 1) (by omega) (by omega) (by rw [tp_af, if_pos ⟨hq, hvo⟩])
            · skip
              exact absurd haf (by rw [tp_af_stop tx L v (pp + x_wL v) i hvo hq (tp_vn v) (by omega)]; omega)
    refine a_sub (lst2 := [(4, .int 0), (3, .int (nI (tp_vn v))), (2, .ref (x_e G 0 v)), (0, .ref (x_b G + 168)), (1, .int (nI c9))]) [0, 1, 2, 3, 4] rfl ?_
    exact L56 ((tp_vn v) + 1) 0 (by omega) (by omega) rfl
  · skip
    refine a_aload_n C dX3_readCommand_39 0 rfl ?_
    refine a_getVd C (v := v) (by first | assumption | omega) (by decide +kernel) dX3_readCommand_40 ?_
    refine a_top (y := (nI (tp_vd v))) hvd.1 ?_
    refine a_iconst C dX3_readCommand_43 (v := 1) (by decide) ?_
    refine a_iadd C dX3_readCommand_44 ?_
    refine a_top (y := (nI (tp_vd v + 1))) (nI_1 _) ?_
    refine a_goto C dX3_readCommand_45 (tgt := 52) (by decide) ?_
    refine a_top (y := nI (tp_vn v)) (congrArg nI (by unfold tp_vn; rw [if_neg h36])) ?_
    refine a_istore_n C dX3_readCommand_52 (by decide) (lst2 := [(3, .int (nI (tp_vn v))), (2, .ref (x_e G 0 v)), (0, .ref (x_b G + 168)), (1, .int (nI c9))]) rfl ?_
    refine a_iconst C dX3_readCommand_53 (v := 0) (by decide) ?_
    refine a_istore C dX3_readCommand_54 (by decide) (lst2 := [(4, .int 0), (3, .int (nI (tp_vn v))), (2, .ref (x_e G 0 v)), (0, .ref (x_b G + 168)), (1, .int (nI c9))]) rfl ?_
    have L56 : ∀ (j i : Nat), i ≤ (tp_vn v) → (tp_vn v) < i + j → tp_af tx L v (pp + x_wL v) i = i → Ab G p l e (x_rm 7 0 0) s m args below meth c 7 0 0 (MQ below (x_Q G (some (.int 1)) (t_w d (nI (tp_ap tx L v (pp + x_wL v) (tp_vn v))) c9 (nI (v + 1)) (nI (tp_r1 tx L v (pp + x_wL v) (tp_vn v))) (nI (tp_r2 tx L v (pp + x_wL v) (tp_vn v))))) args s 0 0 (x_A G)) 56 [(4, .int (nI i)), (3, .int (nI (tp_vn v))), (2, .ref (x_e G 0 v)), (0, .ref (x_b G + 168)), (1, .int (nI c9))] [] (t_w d (nI (tp_ap tx L v (pp + x_wL v) i)) c9 (nI (v + 1)) (nI (tp_r1 tx L v (pp + x_wL v) i)) (nI (tp_r2 tx L v (pp + x_wL v) i))) := by
      intro j
      induction j with
      | zero => intro i h1 h2; exact absurd h2 (by omega)
      | succ j ih =>
        intro i hi hj hq
        refine a_iload C dX3_readCommand_56 0 rfl ?_
        refine a_iload_n C dX3_readCommand_58 1 rfl ?_
        refine a_icmp_ge C dX3_readCommand_59 (tgt := 123) (by decide) (fun h59 => ?_) (fun h59 => ?_)
        · skip
          have e := x_ge h59 hi (by omega)
          have e9 := e.symm
          subst e9
          clear e
          refine a_iconst C dX3_readCommand_123 (v := 1) (by decide) ?_
          exact a_zret C hlocks hr rfl dX3_readCommand_124 rfl rfl
        · skip
          have hlt := x_nge h59 hi
          refine a_iload C dX3_readCommand_62 0 rfl ?_
          refine a_aload_n C dX3_readCommand_64 2 rfl ?_
          refine a_getVd C (v := v) (by first | assumption | omega) (by decide +kernel) dX3_readCommand_65 ?_
          refine a_top (y := (nI (tp_vd v))) hvd.1 ?_
          refine a_icmp_ge C dX3_readCommand_68 (tgt := 75) (by decide) (fun h68 => ?_) (fun h68 => ?_)
          · skip
            refine a_iconst C dX3_readCommand_75 (v := 3) (by decide) ?_
            refine a_top (y := nI (tp_m v i)) (congrArg nI (by unfold tp_m; rw [if_neg (fun z => nI_ge z (by omega) h68)])) ?_
            refine a_istore C dX3_readCommand_76 (by decide) (lst2 := [(5, .int (nI (tp_m v i))), (4, .int (nI i)), (3, .int (nI (tp_vn v))), (2, .ref (x_e G 0 v)), (0, .ref (x_b G + 168)), (1, .int (nI c9))]) rfl ?_
            refine a_aload_n C dX3_readCommand_78 4 rfl ?_
            refine a_iload C dX3_readCommand_79 0 rfl ?_
            have hap : tp_ap tx L v (pp + x_wL v) i ≤ L := tp_ap_le hqL i
            by_cases hvo : tp_vo tx L (tp_ap tx L v (pp + x_wL v) i) = true
            · skip
              obtain ⟨hc, hd⟩ := x_and_of hvo
              refine a_callV C (k := 168) (As := [.int (nI (tp_m v i))]) (rest := []) (c_T_readValue_2 l G (t_w d (nI (tp_ap tx L v (pp + x_wL v) i)) c9 (nI (v + 1)) (nI (tp_r1 tx L v (pp + x_wL v) i)) (nI (tp_r2 tx L v (pp + x_wL v) i))) tx L hL (t_w_1 (by omega) |>.trans hln) (fun j hj => by rw [t_w_out (by omega) (by omega)]; exact htx j hj) ht7 (tp_ap tx L v (pp + x_wL v) i) t_w_2 hap (tp_m v i) (tp_m_le v i).2 hc hd) (cwV 1 C.1.2.2.2.2 gX3_readCommand_X3_readValue rfl rfl rfl (by decide +kernel) ⟨Nat.le_of_ble_eq_true rfl, Nat.le_of_ble_eq_true rfl⟩) x_k168 (q := (RX3, TX3, 7)) rfl rfl rfl rfl (Nat.le_of_ble_eq_true rfl) dX3_readCommand_81 ⟨Nat.le_of_ble_eq_true rfl, Nat.le_of_ble_eq_true rfl⟩ ?_
              refine a_toD (d2 := t_w d (nI (tp_ap tx L v (pp + x_wL v) (i + 1))) c9 (nI (v + 1)) (nI (tp_r1 tx L v (pp + x_wL v) i)) (nI (tp_r2 tx L v (pp + x_wL v) i))) t_w_p ?_
              refine a_istore C dX3_readCommand_84 (by decide) (lst2 := [(6, .int (nI (tp_vv tx L (tp_ap tx L v (pp + x_wL v) i) (tp_m v i)))), (5, .int (nI (tp_m v i))), (4, .int (nI i)), (3, .int (nI (tp_vn v))), (2, .ref (x_e G 0 v)), (0, .ref (x_b G + 168)), (1, .int (nI c9))]) rfl ?_
              refine a_iload C dX3_readCommand_86 0 rfl ?_
              refine a_if_ge C dX3_readCommand_88 (tgt := 93) (by decide) (fun h88 => ?_) (fun h => False.elim (h (nI_pos' (by have := tp_vv_lt tx L (tp_ap tx L v (pp + x_wL v) i) (tp_m v i) (tp_m_le v i).2; omega))))
              refine a_iload C dX3_readCommand_93 2 rfl ?_
              refine a_if_ne C dX3_readCommand_95 (tgt := 109) (by decide) (fun h95 => ?_) (fun h95 => ?_)
              · skip
                have hi1 : i = 1 := x_one h95 (by omega)
                refine a_aload_n C dX3_readCommand_109 5 rfl ?_
                refine a_getR C (k := 168) iX3 x_k168 rfl (j := 6) rfl (by decide) (by decide +kernel) dX3_readCommand_110 ?_
                refine a_iload_n C dX3_readCommand_113 6 rfl ?_
                refine a_iload C dX3_readCommand_114 0 rfl ?_
                refine a_iastN C (k := 172) x_k172 (i := c9) rfl (by omega) (by first | decide | omega) dX3_readCommand_116 ?_
                refine a_toD (d2 := t_w d (nI (tp_ap tx L v (pp + x_wL v) (i + 1))) c9 (nI (v + 1)) (nI (tp_r1 tx L v (pp + x_wL v) (i + 1))) (nI (tp_r2 tx L v (pp + x_wL v) (i + 1)))) (by rw [t_w_b]; subst hi1; rfl) ?_
                refine a_iinc C dX3_readCommand_117 2 rfl (v := (nI (i + 1))) (x_inc i) (by decide) (lst2 := [(4, .int (nI (i + 1))), (6, .int (nI (tp_vv tx L (tp_ap tx L v (pp + x_wL v) i) (tp_m v i)))), (5, .int (nI (tp_m v i))), (3, .int (nI (tp_vn v))), (2, .ref (x_e G 0 v)), (0, .ref (x_b G + 168)), (1, .int (nI c9))]) rfl ?_
                refine a_goto C dX3_readCommand_120 (tgt := 56) (by decide) ?_
                refine a_sub (lst2 := [(4, .int (nI (i + 1))), (3, .int (nI (tp_vn v))), (2, .ref (x_e G 0 v)), (0, .ref (x_b G + 168)), (1, .int (nI c9))]) [0, 3, 4, 5, 6] rfl ?_
                refine a_to (lst2 := [(4, .int (nI ((i + 1)))), (3, .int (nI (tp_vn v))), (2, .ref (x_e G 0 v)), (0, .ref (x_b G + 168)), (1, .int (nI c9))]) (st2 := []) (d2 := t_w d (nI (tp_ap tx L v (pp + x_wL v) ((i + 1)))) c9 (nI (v + 1)) (nI (tp_r1 tx L v (pp + x_wL v) ((i + 1)))) (nI (tp_r2 tx L v (pp + x_wL v) ((i + 1))))) rfl rfl rfl ?_
                exact ih (i + 1) (by omega) (by omega) (by rw [tp_af, if_pos ⟨hq, hvo⟩])
              · skip
                have hi0 : i = 0 := (nI_eq (b := 0) (by omega) (by omega)).mp h95
                refine a_aload_n C dX3_readCommand_98 5 rfl ?_
                refine a_getR C (k := 168) iX3 x_k168 rfl (j := 5) rfl (by decide) (by decide +kernel) dX3_readCommand_99 ?_
                refine a_iload_n C dX3_readCommand_102 6 rfl ?_
                refine a_iload C dX3_readCommand_103 0 rfl ?_
                refine a_iastN C (k := 171) x_k171 (i := c9) rfl (by omega) (by first | decide | omega) dX3_readCommand_105 ?_
                refine a_toD (d2 := t_w d (nI (tp_ap tx L v (pp + x_wL v) (i + 1))) c9 (nI (v + 1)) (nI (tp_r1 tx L v (pp + x_wL v) (i + 1))) (nI (tp_r2 tx L v (pp + x_wL v) (i + 1)))) (by rw [t_w_a]; subst hi0; rfl) ?_
                refine a_goto C dX3_readCommand_106 (tgt := 117) (by decide) ?_
                refine a_iinc C dX3_readCommand_117 2 rfl (v := (nI (i + 1))) (x_inc i) (by decide) (lst2 := [(4, .int (nI (i + 1))), (6, .int (nI (tp_vv tx L (tp_ap tx L v (pp + x_wL v) i) (tp_m v i)))), (5, .int (nI (tp_m v i))), (3, .int (nI (tp_vn v))), (2, .ref (x_e G 0 v)), (0, .ref (x_b G + 168)), (1, .int (nI c9))]) rfl ?_
                refine a_goto C dX3_readCommand_120 (tgt := 56) (by decide) ?_
                refine a_sub (lst2 := [(4, .int (nI (i + 1))), (3, .int (nI (tp_vn v))), (2, .ref (x_e G 0 v)), (0, .ref (x_b G + 168)), (1, .int (nI c9))]) [0, 3, 4, 5, 6] rfl ?_
                refine a_to (lst2 := [(4, .int (nI ((i + 1)))), (3, .int (nI (tp_vn v))), (2, .ref (x_e G 0 v)), (0, .ref (x_b G + 168)), (1, .int (nI c9))]) (st2 := []) (d2 := t_w d (nI (tp_ap tx L v (pp + x_wL v) ((i + 1)))) c9 (nI (v + 1)) (nI (tp_r1 tx L v (pp + x_wL v) ((i + 1)))) (nI (tp_r2 tx L v (pp + x_wL v) ((i + 1))))) rfl rfl rfl ?_
                exact ih (i + 1) (by omega) (by omega) (by rw [tp_af, if_pos ⟨hq, hvo⟩])
            · skip
              exact absurd haf (by rw [tp_af_stop tx L v (pp + x_wL v) i hvo hq (tp_vn v) (by omega)]; omega)
          · skip
            refine a_iconst C dX3_readCommand_71 (v := 1) (by decide) ?_
            refine a_goto C dX3_readCommand_72 (tgt := 76) (by decide) ?_
            refine a_top (y := nI (tp_m v i)) (congrArg nI (by unfold tp_m; rw [if_pos (Nat.lt_of_not_le (fun z => h68 (nI_le z (by omega))))])) ?_
            refine a_istore C dX3_readCommand_76 (by decide) (lst2 := [(5, .int (nI (tp_m v i))), (4, .int (nI i)), (3, .int (nI (tp_vn v))), (2, .ref (x_e G 0 v)), (0, .ref (x_b G + 168)), (1, .int (nI c9))]) rfl ?_
            refine a_aload_n C dX3_readCommand_78 4 rfl ?_
            refine a_iload C dX3_readCommand_79 0 rfl ?_
            have hap : tp_ap tx L v (pp + x_wL v) i ≤ L := tp_ap_le hqL i
            by_cases hvo : tp_vo tx L (tp_ap tx L v (pp + x_wL v) i) = true
            · skip
              obtain ⟨hc, hd⟩ := x_and_of hvo
              refine a_callV C (k := 168) (As := [.int (nI (tp_m v i))]) (rest := []) (c_T_readValue_2 l G (t_w d (nI (tp_ap tx L v (pp + x_wL v) i)) c9 (nI (v + 1)) (nI (tp_r1 tx L v (pp + x_wL v) i)) (nI (tp_r2 tx L v (pp + x_wL v) i))) tx L hL (t_w_1 (by omega) |>.trans hln) (fun j hj => by rw [t_w_out (by omega) (by omega)]; exact htx j hj) ht7 (tp_ap tx L v (pp + x_wL v) i) t_w_2 hap (tp_m v i) (tp_m_le v i).2 hc hd) (cwV 1 C.1.2.2.2.2 gX3_readCommand_X3_readValue rfl rfl rfl (by decide +kernel) ⟨Nat.le_of_ble_eq_true rfl, Nat.le_of_ble_eq_true rfl⟩) x_k168 (q := (RX3, TX3, 7)) rfl rfl rfl rfl (Nat.le_of_ble_eq_true rfl) dX3_readCommand_81 ⟨Nat.le_of_ble_eq_true rfl, Nat.le_of_ble_eq_true rfl⟩ ?_
              refine a_toD (d2 := t_w d (nI (tp_ap tx L v (pp + x_wL v) (i + 1))) c9 (nI (v + 1)) (nI (tp_r1 tx L v (pp + x_wL v) i)) (nI (tp_r2 tx L v (pp + x_wL v) i))) t_w_p ?_
              refine a_istore C dX3_readCommand_84 (by decide) (lst2 := [(6, .int (nI (tp_vv tx L (tp_ap tx L v (pp + x_wL v) i) (tp_m v i)))), (5, .int (nI (tp_m v i))), (4, .int (nI i)), (3, .int (nI (tp_vn v))), (2, .ref (x_e G 0 v)), (0, .ref (x_b G + 168)), (1, .int (nI c9))]) rfl ?_
              refine a_iload C dX3_readCommand_86 0 rfl ?_
              refine a_if_ge C dX3_readCommand_88 (tgt := 93) (by decide) (fun h88 => ?_) (fun h => False.elim (h (nI_pos' (by have := tp_vv_lt tx L (tp_ap tx L v (pp + x_wL v) i) (tp_m v i) (tp_m_le v i).2; omega))))
              refine a_iload C dX3_readCommand_93 2 rfl ?_
              refine a_if_ne C dX3_readCommand_95 (tgt := 109) (by decide) (fun h95 => ?_) (fun h95 => ?_)
              · skip
                have hi1 : i = 1 := x_one h95 (by omega)
                refine a_aload_n C dX3_readCommand_109 5 rfl ?_
                refine a_getR C (k := 168) iX3 x_k168 rfl (j := 6) rfl (by decide) (by decide +kernel) dX3_readCommand_110 ?_
                refine a_iload_n C dX3_readCommand_113 6 rfl ?_
                refine a_iload C dX3_readCommand_114 0 rfl ?_
                refine a_iastN C (k := 172) x_k172 (i := c9) rfl (by omega) (by first | decide | omega) dX3_readCommand_116 ?_
                refine a_toD (d2 := t_w d (nI (tp_ap tx L v (pp + x_wL v) (i + 1))) c9 (nI (v + 1)) (nI (tp_r1 tx L v (pp + x_wL v) (i + 1))) (nI (tp_r2 tx L v (pp + x_wL v) (i + 1)))) (by rw [t_w_b]; subst hi1; rfl) ?_
                refine a_iinc C dX3_readCommand_117 2 rfl (v := (nI (i + 1))) (x_inc i) (by decide) (lst2 := [(4, .int (nI (i + 1))), (6, .int (nI (tp_vv tx L (tp_ap tx L v (pp + x_wL v) i) (tp_m v i)))), (5, .int (nI (tp_m v i))), (3, .int (nI (tp_vn v))), (2, .ref (x_e G 0 v)), (0, .ref (x_b G + 168)), (1, .int (nI c9))]) rfl ?_
                refine a_goto C dX3_readCommand_120 (tgt := 56) (by decide) ?_
                refine a_sub (lst2 := [(4, .int (nI (i + 1))), (3, .int (nI (tp_vn v))), (2, .ref (x_e G 0 v)), (0, .ref (x_b G + 168)), (1, .int (nI c9))]) [0, 3, 4, 5, 6] rfl ?_
                refine a_to (lst2 := [(4, .int (nI ((i + 1)))), (3, .int (nI (tp_vn v))), (2, .ref (x_e G 0 v)), (0, .ref (x_b G + 168)), (1, .int (nI c9))]) (st2 := []) (d2 := t_w d (nI (tp_ap tx L v (pp + x_wL v) ((i + 1)))) c9 (nI (v + 1)) (nI (tp_r1 tx L v (pp + x_wL v) ((i + 1)))) (nI (tp_r2 tx L v (pp + x_wL v) ((i + 1))))) rfl rfl rfl ?_
                exact ih (i + 1) (by omega) (by omega) (by rw [tp_af, if_pos ⟨hq, hvo⟩])
              · skip
                have hi0 : i = 0 := (nI_eq (b := 0) (by omega) (by omega)).mp h95
                refine a_aload_n C dX3_readCommand_98 5 rfl ?_
                refine a_getR C (k := 168) iX3 x_k168 rfl (j := 5) rfl (by decide) (by decide +kernel) dX3_readCommand_99 ?_
                refine a_iload_n C dX3_readCommand_102 6 rfl ?_
                refine a_iload C dX3_readCommand_103 0 rfl ?_
                refine a_iastN C (k := 171) x_k171 (i := c9) rfl (by omega) (by first | decide | omega) dX3_readCommand_105 ?_
                refine a_toD (d2 := t_w d (nI (tp_ap tx L v (pp + x_wL v) (i + 1))) c9 (nI (v + 1)) (nI (tp_r1 tx L v (pp + x_wL v) (i + 1))) (nI (tp_r2 tx L v (pp + x_wL v) (i + 1)))) (by rw [t_w_a]; subst hi0; rfl) ?_
                refine a_goto C dX3_readCommand_106 (tgt := 117) (by decide) ?_
                refine a_iinc C dX3_readCommand_117 2 rfl (v := (nI (i + 1))) (x_inc i) (by decide) (lst2 := [(4, .int (nI (i + 1))), (6, .int (nI (tp_vv tx L (tp_ap tx L v (pp + x_wL v) i) (tp_m v i)))), (5, .int (nI (tp_m v i))), (3, .int (nI (tp_vn v))), (2, .ref (x_e G 0 v)), (0, .ref (x_b G + 168)), (1, .int (nI c9))]) rfl ?_
                refine a_goto C dX3_readCommand_120 (tgt := 56) (by decide) ?_
                refine a_sub (lst2 := [(4, .int (nI (i + 1))), (3, .int (nI (tp_vn v))), (2, .ref (x_e G 0 v)), (0, .ref (x_b G + 168)), (1, .int (nI c9))]) [0, 3, 4, 5, 6] rfl ?_
                refine a_to (lst2 := [(4, .int (nI ((i + 1)))), (3, .int (nI (tp_vn v))), (2, .ref (x_e G 0 v)), (0, .ref (x_b G + 168)), (1, .int (nI c9))]) (st2 := []) (d2 := t_w d (nI (tp_ap tx L v (pp + x_wL v) ((i + 1)))) c9 (nI (v + 1)) (nI (tp_r1 tx L v (pp + x_wL v) ((i + 1)))) (nI (tp_r2 tx L v (pp + x_wL v) ((i + 1))))) rfl rfl rfl ?_
                exact ih (i + 1) (by omega) (by omega) (by rw [tp_af, if_pos ⟨hq, hvo⟩])
            · skip
              exact absurd haf (by rw [tp_af_stop tx L v (pp + x_wL v) i hvo hq (tp_vn v) (by omega)]; omega)
    refine a_sub (lst2 := [(4, .int 0), (3, .int (nI (tp_vn v))), (2, .ref (x_e G 0 v)), (0, .ref (x_b G + 168)), (1, .int (nI c9))]) [0, 1, 2, 3, 4] rfl ?_
    exact L56 ((tp_vn v) + 1) 0 (by omega) (by omega) rfl

set_option maxHeartbeats 1000000 in
set_option maxRecDepth 100000 in
theorem c_T_readCommand_f (l : Launch) (G : xG) (d : xd) (tx : Nat → Nat) (L : Nat) (hL : L ≤ 60) (hln : d 168 1 = nI L) (htx : ∀ j, j < L → d 169 j = nI (tx j)) (ht7 : ∀ j, j < L → tx j < 128) (pp : Nat) (hp : d 168 2 = nI pp) (hpL : pp ≤ L) (c9 : Nat) (hc9 : c9 < 15) (v : Nat) (hv : v < 13) (hvb : tp_vb tx L pp = v) (haf : ¬ tp_af tx L v (pp + x_wL v) (tp_vn v) = tp_vn v) : x_M G l yX3_readCommand wsX3_readCommand 7 0 0 [.ref (x_b G + 168), .int (nI c9)] d (some (.int 0)) (t_w d (nI (tp_ap tx L v (pp + x_wL v) ((tp_af tx L v (pp + x_wL v) (tp_vn v)) + 1))) c9 (nI (v + 1)) (nI (tp_r1 tx L v (pp + x_wL v) (tp_af tx L v (pp + x_wL v) (tp_vn v)))) (nI (tp_r2 tx L v (pp + x_wL v) (tp_af tx L v (pp + x_wL v) (tp_vn v))))) := by
  have hvd := tp_vd_ok v hv
  have hwl := x_wL_lt v hv
  have hqL : (pp + x_wL v) ≤ L := tp_vb_in hpL hv hvb
  have iX3 : ∀ w ∈ u_ws RX3 TX3 7, w ∈ wsX3_readCommand := by decide +kernel
  refine x_start (cc := cX3_readCommand) (maxL := 7) (ret := (some .boolean)) (own := RX3) (by decide) rfl rfl (Nat.le_of_ble_eq_true rfl) (lst := [(0, .ref (x_b G + 168)), (1, .int (nI c9))]) rfl ?_
  intro p e s m args below meth c C hr hlocks
  refine a_aload_n C dX3_readCommand_0 0 rfl ?_
  refine a_callV C (k := 168) (As := []) (rest := []) (c_T_readVerb_t l G d tx L hL hln htx ht7 pp hp hpL v hv hvb) (cwV 0 C.1.2.2.2.2 gX3_readCommand_X3_readVerb rfl rfl rfl (by decide +kernel) ⟨Nat.le_of_ble_eq_true rfl, Nat.le_of_ble_eq_true rfl⟩) x_k168 (q := (RX3, TX3, 7)) rfl rfl rfl rfl (Nat.le_of_ble_eq_true rfl) dX3_readCommand_1 ⟨Nat.le_of_ble_eq_true rfl, Nat.le_of_ble_eq_true rfl⟩ ?_
  refine a_astore_n C dX3_readCommand_4 (by decide) (lst2 := [(2, .ref (x_e G 0 v)), (0, .ref (x_b G + 168)), (1, .int (nI c9))]) rfl ?_
  refine a_aload_n C dX3_readCommand_5 0 rfl ?_
  refine a_ifnonnull C dX3_readCommand_6 (tgt := 11) (by decide) ?_
  refine a_aload_n C dX3_readCommand_11 1 rfl ?_
  refine a_getR C (k := 168) iX3 x_k168 rfl (j := 4) rfl (by decide) (by decide +kernel) dX3_readCommand_12 ?_
  refine a_iload_n C dX3_readCommand_15 2 rfl ?_
  refine a_aload_n C dX3_readCommand_16 0 rfl ?_
  refine a_aastV C (k := 170) x_k170 (i := c9) rfl (by omega) (by decide) (v := v) (by first | assumption | omega) dX3_readCommand_17 ?_
  refine a_aload_n C dX3_readCommand_18 1 rfl ?_
  refine a_getR C (k := 168) iX3 x_k168 rfl (j := 5) rfl (by decide) (by decide +kernel) dX3_readCommand_19 ?_
  refine a_iload_n C dX3_readCommand_22 2 rfl ?_
  refine a_iconst C dX3_readCommand_23 (v := 0) (by decide) ?_
  refine a_iastN C (k := 171) x_k171 (i := c9) rfl (by omega) (by first | decide | omega) dX3_readCommand_24 ?_
  refine a_aload_n C dX3_readCommand_25 1 rfl ?_
  refine a_getR C (k := 168) iX3 x_k168 rfl (j := 6) rfl (by decide) (by decide +kernel) dX3_readCommand_26 ?_
  refine a_iload_n C dX3_readCommand_29 2 rfl ?_
  refine a_iconst C dX3_readCommand_30 (v := 0) (by decide) ?_
  refine a_iastN C (k := 172) x_k172 (i := c9) rfl (by omega) (by first | decide | omega) dX3_readCommand_31 ?_
  refine a_aload_n C dX3_readCommand_32 0 rfl ?_
  refine a_getVh C (v := v) (by first | assumption | omega) (by decide +kernel) dX3_readCommand_33 ?_
  refine a_if_eq C dX3_readCommand_36 (tgt := 48) (by decide) (fun h36 => ?_) (fun h36 => ?_)
  · skip
    refine a_aload_n C dX3_readCommand_48 0 rfl ?_
    refine a_getVd C (v := v) (by first | assumption | omega) (by decide +kernel) dX3_readCommand_49 ?_
    refine a_top (y := (nI (tp_vd v))) hvd.1 ?_
    refine a_top (y := nI (tp_vn v)) (congrArg nI (by unfold tp_vn; rw [if_pos h36])) ?_
    refine a_istore_n C dX3_readCommand_52 (by decide) (lst2 := [(3, .int (nI (tp_vn v))), (2, .ref (x_e G 0 v)), (0, .ref (x_b G + 168)), (1, .int (nI c9))]) rfl ?_
    refine a_iconst C dX3_readCommand_53 (v := 0) (by decide) ?_
    refine a_istore C dX3_readCommand_54 (by decide) (lst2 := [(4, .int 0), (3, .int (nI (tp_vn v))), (2, .ref (x_e G 0 v)), (0, .ref (x_b G + 168)), (1, .int (nI c9))]) rfl ?_
    have L56 : ∀ (j i : Nat), i ≤ (tp_vn v) → (tp_vn v) < i + j → tp_af tx L v (pp + x_wL v) i = i → Ab G p l e (x_rm 7 0 0) s m args below meth c 7 0 0 (MQ below (x_Q G (some (.int 0)) (t_w d (nI (tp_ap tx L v (pp + x_wL v) ((tp_af tx L v (pp + x_wL v) (tp_vn v)) + 1))) c9 (nI (v + 1)) (nI (tp_r1 tx L v (pp + x_wL v) (tp_af tx L v (pp + x_wL v) (tp_vn v)))) (nI (tp_r2 tx L v (pp + x_wL v) (tp_af tx L v (pp + x_wL v) (tp_vn v)))))) args s 0 0 (x_A G)) 56 [(4, .int (nI i)), (3, .int (nI (tp_vn v))), (2, .ref (x_e G 0 v)), (0, .ref (x_b G + 168)), (1, .int (nI c9))] [] (t_w d (nI (tp_ap tx L v (pp + x_wL v) i)) c9 (nI (v + 1)) (nI (tp_r1 tx L v (pp + x_wL v) i)) (nI (tp_r2 tx L v (pp + x_wL v) i))) := by
      intro j
      induction j with
      | zero => intro i h1 h2; exact absurd h2 (by omega)
      | succ j ih =>
        intro i hi hj hq
        refine a_iload C dX3_readCommand_56 0 rfl ?_
        refine a_iload_n C dX3_readCommand_58 1 rfl ?_
        refine a_icmp_ge C dX3_readCommand_59 (tgt := 123) (by decide) (fun h59 => ?_) (fun h59 => ?_)
        · skip
          have e := x_ge h59 hi (by omega)
          have e9 := e.symm
          subst e9
          clear e
          exact absurd hq haf
        · skip
          have hlt := x_nge h59 hi
          refine a_iload C dX3_readCommand_62 0 rfl ?_
          refine a_aload_n C dX3_readCommand_64 2 rfl ?_
          refine a_getVd C (v := v) (by first | assumption | omega) (by decide +kernel) dX3_readCommand_65 ?_
          refine a_top (y := (nI (tp_vd v))) hvd.1 ?_
          refine a_icmp_ge C dX3_readCommand_68 (tgt := 75) (by decide) (fun h68 => ?_) (fun h68 => ?_)
          · skip
            refine a_iconst C dX3_readCommand_75 (v := 3) (by decide) ?_
            refine a_top (y := nI (tp_m v i)) (congrArg nI (by unfold tp_m; rw [if_neg (fun z => nI_ge z (by omega) h68)])) ?_
            refine a_istore C dX3_readCommand_76 (by decide) (lst2 := [(5, .int (nI (tp_m v i))), (4, .int (nI i)), (3, .int (nI (tp_vn v))), (2, .ref (x_e G 0 v)), (0, .ref (x_b G + 168)), (1, .int (nI c9))]) rfl ?_
            refine a_aload_n C dX3_readCommand_78 4 rfl ?_
            refine a_iload C dX3_readCommand_79 0 rfl ?_
            have hap : tp_ap tx L v (pp + x_wL v) i ≤ L := tp_ap_le hqL i
            by_cases hvo : tp_vo tx L (tp_ap tx L v (pp + x_wL v) i) = true
            · skip
              obtain ⟨hc, hd⟩ := x_and_of hvo
              refine a_callV C (k := 168) (As := [.int (nI (tp_m v i))]) (rest := []) (c_T_readValue_2 l G (t_w d (nI (tp_ap tx L v (pp + x_wL v) i)) c9 (nI (v + 1)) (nI (tp_r1 tx L v (pp + x_wL v) i)) (nI (tp_r2 tx L v (pp + x_wL v) i))) tx L hL (t_w_1 (by omega) |>.trans hln) (fun j hj => by rw [t_w_out (by omega) (by omega)]; exact htx j hj) ht7 (tp_ap tx L v (pp + x_wL v) i) t_w_2 hap (tp_m v i) (tp_m_le v i).2 hc hd) (cwV 1 C.1.2.2.2.2 gX3_readCommand_X3_readValue rfl rfl rfl (by decide +kernel) ⟨Nat.le_of_ble_eq_true rfl, Nat.le_of_ble_eq_true rfl⟩) x_k168 (q := (RX3, TX3, 7)) rfl rfl rfl rfl (Nat.le_of_ble_eq_true rfl) dX3_readCommand_81 ⟨Nat.le_of_ble_eq_true rfl, Nat.le_of_ble_eq_true rfl⟩ ?_
              refine a_toD (d2 := t_w d (nI (tp_ap tx L v (pp + x_wL v) (i + 1))) c9 (nI (v + 1)) (nI (tp_r1 tx L v (pp + x_wL v) i)) (nI (tp_r2 tx L v (pp + x_wL v) i))) t_w_p ?_
              refine a_istore C dX3_readCommand_84 (by decide) (lst2 := [(6, .int (nI (tp_vv tx L (tp_ap tx L v (pp + x_wL v) i) (tp_m v i)))), (5, .int (nI (tp_m v i))), (4, .int (nI i)), (3, .int (nI (tp_vn v))), (2, .ref (x_e G 0 v)), (0, .ref (x_b G + 168)), (1, .int (nI c9))]) rfl ?_
              refine a_iload C dX3_readCommand_86 0 rfl ?_
              refine a_if_ge C dX3_readCommand_88 (tgt := 93) (by decide) (fun h88 => ?_) (fun h => False.elim (h (nI_pos' (by have := tp_vv_lt tx L (tp_ap tx L v (pp + x_wL v) i) (tp_m v i) (tp_m_le v i).2; omega))))
              refine a_iload C dX3_readCommand_93 2 rfl ?_
              refine a_if_ne C dX3_readCommand_95 (tgt := 109) (by decide) (fun h95 => ?_) (fun h95 => ?_)
              · skip
                have hi1 : i = 1 := x_one h95 (by omega)
                refine a_aload_n C dX3_readCommand_109 5 rfl ?_
                refine a_getR C (k := 168) iX3 x_k168 rfl (j := 6) rfl (by decide) (by decide +kernel) dX3_readCommand_110 ?_
                refine a_iload_n C dX3_readCommand_113 6 rfl ?_
                refine a_iload C dX3_readCommand_114 0 rfl ?_
                refine a_iastN C (k := 172) x_k172 (i := c9) rfl (by omega) (by first | decide | omega) dX3_readCommand_116 ?_
                refine a_toD (d2 := t_w d (nI (tp_ap tx L v (pp + x_wL v) (i + 1))) c9 (nI (v + 1)) (nI (tp_r1 tx L v (pp + x_wL v) (i + 1))) (nI (tp_r2 tx L v (pp + x_wL v) (i + 1)))) (by rw [t_w_b]; subst hi1; rfl) ?_
                refine a_iinc C dX3_readCommand_117 2 rfl (v := (nI (i + 1))) (x_inc i) (by decide) (lst2 := [(4, .int (nI (i + 1))), (6, .int (nI (tp_vv tx L (tp_ap tx L v (pp + x_wL v) i) (tp_m v i)))), (5, .int (nI (tp_m v i))), (3, .int (nI (tp_vn v))), (2, .ref (x_e G 0 v)), (0, .ref (x_b G + 168)), (1, .int (nI c9))]) rfl ?_
                refine a_goto C dX3_readCommand_120 (tgt := 56) (by decide) ?_
                refine a_sub (lst2 := [(4, .int (nI (i + 1))), (3, .int (nI (tp_vn v))), (2, .ref (x_e G 0 v)), (0, .ref (x_b G + 168)), (1, .int (nI c9))]) [0, 3, 4, 5, 6] rfl ?_
                refine a_to (lst2 := [(4, .int (nI ((i + 1)))), (3, .int (nI (tp_vn v))), (2, .ref (x_e G 0 v)), (0, .ref (x_b G + 168)), (1, .int (nI c9))]) (st2 := []) (d2 := t_w d (nI (tp_ap tx L v (pp + x_wL v) ((i + 1)))) c9 (nI (v + 1)) (nI (tp_r1 tx L v (pp + x_wL v) ((i + 1)))) (nI (tp_r2 tx L v (pp + x_wL v) ((i + 1))))) rfl rfl rfl ?_
                exact ih (i + 1) (by omega) (by omega) (by rw [tp_af, if_pos ⟨hq, hvo⟩])
              · skip
                have hi0 : i = 0 := (nI_eq (b := 0) (by omega) (by omega)).mp h95
                refine a_aload_n C dX3_readCommand_98 5 rfl ?_
                refine a_getR C (k := 168) iX3 x_k168 rfl (j := 5) rfl (by decide) (by decide +kernel) dX3_readCommand_99 ?_
                refine a_iload_n C dX3_readCommand_102 6 rfl ?_
                refine a_iload C dX3_readCommand_103 0 rfl ?_
                refine a_iastN C (k := 171) x_k171 (i := c9) rfl (by omega) (by first | decide | omega) dX3_readCommand_105 ?_
                refine a_toD (d2 := t_w d (nI (tp_ap tx L v (pp + x_wL v) (i + 1))) c9 (nI (v + 1)) (nI (tp_r1 tx L v (pp + x_wL v) (i + 1))) (nI (tp_r2 tx L v (pp + x_wL v) (i + 1)))) (by rw [t_w_a]; subst hi0; rfl) ?_
                refine a_goto C dX3_readCommand_106 (tgt := 117) (by decide) ?_
                refine a_iinc C dX3_readCommand_117 2 rfl (v := (nI (i + 1))) (x_inc i) (by decide) (lst2 := [(4, .int (nI (i + 1))), (6, .int (nI (tp_vv tx L (tp_ap tx L v (pp + x_wL v) i) (tp_m v i)))), (5, .int (nI (tp_m v i))), (3, .int (nI (tp_vn v))), (2, .ref (x_e G 0 v)), (0, .ref (x_b G + 168)), (1, .int (nI c9))]) rfl ?_
                refine a_goto C dX3_readCommand_120 (tgt := 56) (by decide) ?_
                refine a_sub (lst2 := [(4, .int (nI (i + 1))), (3, .int (nI (tp_vn v))), (2, .ref (x_e G 0 v)), (0, .ref (x_b G + 168)), (1, .int (nI c9))]) [0, 3, 4, 5, 6] rfl ?_
                refine a_to (lst2 := [(4, .int (nI ((i + 1)))), (3, .int (nI (tp_vn v))), (2, .ref (x_e G 0 v)), (0, .ref (x_b G + 168)), (1, .int (nI c9))]) (st2 := []) (d2 := t_w d (nI (tp_ap tx L v (pp + x_wL v) ((i + 1)))) c9 (nI (v + 1)) (nI (tp_r1 tx L v (pp + x_wL v) ((i + 1)))) (nI (tp_r2 tx L v (pp + x_wL v) ((i + 1))))) rfl rfl rfl ?_
                exact ih (i + 1) (by omega) (by omega) (by rw [tp_af, if_pos ⟨hq, hvo⟩])
            · skip
              have haf9 := tp_af_stop tx L v (pp + x_wL v) i hvo hq (tp_vn v) (by omega)
              by_cases hc : tp_c tx L (tp_ap tx L v (pp + x_wL v) i) 32 = true
              · skip
                have hd : ¬ tp_dg tx L (tp_ap tx L v (pp + x_wL v) i + 1) = true := fun z => hvo (x_and_to hc z)
                refine a_callV C (k := 168) (As := [.int (nI (tp_m v i))]) (rest := []) (c_T_readValue_1 l G (t_w d (nI (tp_ap tx L v (pp + x_wL v) i)) c9 (nI (v + 1)) (nI (tp_r1 tx L v (pp + x_wL v) i)) (nI (tp_r2 tx L v (pp + x_wL v) i))) tx L hL (t_w_1 (by omega) |>.trans hln) (fun j hj => by rw [t_w_out (by omega) (by omega)]; exact htx j hj) ht7 (tp_ap tx L v (pp + x_wL v) i) t_w_2 hap (tp_m v i) (tp_m_le v i).2 hc hd) (cwV 1 C.1.2.2.2.2 gX3_readCommand_X3_readValue rfl rfl rfl (by decide +kernel) ⟨Nat.le_of_ble_eq_true rfl, Nat.le_of_ble_eq_true rfl⟩) x_k168 (q := (RX3, TX3, 7)) rfl rfl rfl rfl (Nat.le_of_ble_eq_true rfl) dX3_readCommand_81 ⟨Nat.le_of_ble_eq_true rfl, Nat.le_of_ble_eq_true rfl⟩ ?_
                refine a_toD (d2 := t_w d (nI (tp_ap tx L v (pp + x_wL v) (i + 1))) c9 (nI (v + 1)) (nI (tp_r1 tx L v (pp + x_wL v) i)) (nI (tp_r2 tx L v (pp + x_wL v) i))) (by rw [show tp_ap tx L v (pp + x_wL v) (i + 1) = tp_ap tx L v (pp + x_wL v) i + 1 from tp_vp_1 hc hd]; exact t_w_p) ?_
                refine a_istore C dX3_readCommand_84 (by decide) (lst2 := [(6, .int (-1)), (5, .int (nI (tp_m v i))), (4, .int (nI i)), (3, .int (nI (tp_vn v))), (2, .ref (x_e G 0 v)), (0, .ref (x_b G + 168)), (1, .int (nI c9))]) rfl ?_
                refine a_iload C dX3_readCommand_86 0 rfl ?_
                refine a_if_ge C dX3_readCommand_88 (tgt := 93) (by decide) (fun h => absurd h (by decide)) (fun _ => ?_)
                refine a_iconst C dX3_readCommand_91 (v := 0) (by decide) ?_
                exact a_zret C hlocks hr rfl dX3_readCommand_92 rfl (by rw [haf9])
              · skip
                refine a_callV C (k := 168) (As := [.int (nI (tp_m v i))]) (rest := []) (c_T_readValue_0 l G (t_w d (nI (tp_ap tx L v (pp + x_wL v) i)) c9 (nI (v + 1)) (nI (tp_r1 tx L v (pp + x_wL v) i)) (nI (tp_r2 tx L v (pp + x_wL v) i))) tx L hL (t_w_1 (by omega) |>.trans hln) (fun j hj => by rw [t_w_out (by omega) (by omega)]; exact htx j hj) ht7 (tp_ap tx L v (pp + x_wL v) i) t_w_2 hap (tp_m v i) (tp_m_le v i).2 hc) (cwV 1 C.1.2.2.2.2 gX3_readCommand_X3_readValue rfl rfl rfl (by decide +kernel) ⟨Nat.le_of_ble_eq_true rfl, Nat.le_of_ble_eq_true rfl⟩) x_k168 (q := (RX3, TX3, 7)) rfl rfl rfl rfl (Nat.le_of_ble_eq_true rfl) dX3_readCommand_81 ⟨Nat.le_of_ble_eq_true rfl, Nat.le_of_ble_eq_true rfl⟩ ?_
                refine a_toD (d2 := t_w d (nI (tp_ap tx L v (pp + x_wL v) (i + 1))) c9 (nI (v + 1)) (nI (tp_r1 tx L v (pp + x_wL v) i)) (nI (tp_r2 tx L v (pp + x_wL v) i))) (by rw [show tp_ap tx L v (pp + x_wL v) (i + 1) = tp_ap tx L v (pp + x_wL v) i from tp_vp_0 hc]) ?_
                refine a_istore C dX3_readCommand_84 (by decide) (lst2 := [(6, .int (-1)), (5, .int (nI (tp_m v i))), (4, .int (nI i)), (3, .int (nI (tp_vn v))), (2, .ref (x_e G 0 v)), (0, .ref (x_b G + 168)), (1, .int (nI c9))]) rfl ?_
                refine a_iload C dX3_readCommand_86 0 rfl ?_
                refine a_if_ge C dX3_readCommand_88 (tgt := 93) (by decide) (fun h => absurd h (by decide)) (fun _ => ?_)
                refine a_iconst C dX3_readCommand_91 (v := 0) (by decide) ?_
                exact a_zret C hlocks hr rfl dX3_readCommand_92 rfl (by rw [haf9])
          · skip
            refine a_iconst C dX3_readCommand_71 (v := 1) (by decide) ?_
            refine a_goto C dX3_readCommand_72 (tgt := 76) (by decide) ?_
            refine a_top (y := nI (tp_m v i)) (congrArg nI (by unfold tp_m; rw [if_pos (Nat.lt_of_not_le (fun z => h68 (nI_le z (by omega))))])) ?_
            refine a_istore C dX3_readCommand_76 (by decide) (lst2 := [(5, .int (nI (tp_m v i))), (4, .int (nI i)), (3, .int (nI (tp_vn v))), (2, .ref (x_e G 0 v)), (0, .ref (x_b G + 168)), (1, .int (nI c9))]) rfl ?_
            refine a_aload_n C dX3_readCommand_78 4 rfl ?_
            refine a_iload C dX3_readCommand_79 0 rfl ?_
            have hap : tp_ap tx L v (pp + x_wL v) i ≤ L := tp_ap_le hqL i
            by_cases hvo : tp_vo tx L (tp_ap tx L v (pp + x_wL v) i) = true
            · skip
              obtain ⟨hc, hd⟩ := x_and_of hvo
              refine a_callV C (k := 168) (As := [.int (nI (tp_m v i))]) (rest := []) (c_T_readValue_2 l G (t_w d (nI (tp_ap tx L v (pp + x_wL v) i)) c9 (nI (v + 1)) (nI (tp_r1 tx L v (pp + x_wL v) i)) (nI (tp_r2 tx L v (pp + x_wL v) i))) tx L hL (t_w_1 (by omega) |>.trans hln) (fun j hj => by rw [t_w_out (by omega) (by omega)]; exact htx j hj) ht7 (tp_ap tx L v (pp + x_wL v) i) t_w_2 hap (tp_m v i) (tp_m_le v i).2 hc hd) (cwV 1 C.1.2.2.2.2 gX3_readCommand_X3_readValue rfl rfl rfl (by decide +kernel) ⟨Nat.le_of_ble_eq_true rfl, Nat.le_of_ble_eq_true rfl⟩) x_k168 (q := (RX3, TX3, 7)) rfl rfl rfl rfl (Nat.le_of_ble_eq_true rfl) dX3_readCommand_81 ⟨Nat.le_of_ble_eq_true rfl, Nat.le_of_ble_eq_true rfl⟩ ?_
              refine a_toD (d2 := t_w d (nI (tp_ap tx L v (pp + x_wL v) (i + 1))) c9 (nI (v + 1)) (nI (tp_r1 tx L v (pp + x_wL v) i)) (nI (tp_r2 tx L v (pp + x_wL v) i))) t_w_p ?_
              refine a_istore C dX3_readCommand_84 (by decide) (lst2 := [(6, .int (nI (tp_vv tx L (tp_ap tx L v (pp + x_wL v) i) (tp_m v i)))), (5, .int (nI (tp_m v i))), (4, .int (nI i)), (3, .int (nI (tp_vn v))), (2, .ref (x_e G 0 v)), (0, .ref (x_b G + 168)), (1, .int (nI c9))]) rfl ?_
              refine a_iload C dX3_readCommand_86 0 rfl ?_
              refine a_if_ge C dX3_readCommand_88 (tgt := 93) (by decide) (fun h88 => ?_) (fun h => False.elim (h (nI_pos' (by have := tp_vv_lt tx L (tp_ap tx L v (pp + x_wL v) i) (tp_m v i) (tp_m_le v i).2; omega))))
              refine a_iload C dX3_readCommand_93 2 rfl ?_
              refine a_if_ne C dX3_readCommand_95 (tgt := 109) (by decide) (fun h95 => ?_) (fun h95 => ?_)
              · skip
                have hi1 : i = 1 := x_one h95 (by omega)
                refine a_aload_n C dX3_readCommand_109 5 rfl ?_
                refine a_getR C (k := 168) iX3 x_k168 rfl (j := 6) rfl (by decide) (by decide +kernel) dX3_readCommand_110 ?_
                refine a_iload_n C dX3_readCommand_113 6 rfl ?_
                refine a_iload C dX3_readCommand_114 0 rfl ?_
                refine a_iastN C (k := 172) x_k172 (i := c9) rfl (by omega) (by first | decide | omega) dX3_readCommand_116 ?_
                refine a_toD (d2 := t_w d (nI (tp_ap tx L v (pp + x_wL v) (i + 1))) c9 (nI (v + 1)) (nI (tp_r1 tx L v (pp + x_wL v) (i + 1))) (nI (tp_r2 tx L v (pp + x_wL v) (i + 1)))) (by rw [t_w_b]; subst hi1; rfl) ?_
                refine a_iinc C dX3_readCommand_117 2 rfl (v := (nI (i + 1))) (x_inc i) (by decide) (lst2 := [(4, .int (nI (i + 1))), (6, .int (nI (tp_vv tx L (tp_ap tx L v (pp + x_wL v) i) (tp_m v i)))), (5, .int (nI (tp_m v i))), (3, .int (nI (tp_vn v))), (2, .ref (x_e G 0 v)), (0, .ref (x_b G + 168)), (1, .int (nI c9))]) rfl ?_
                refine a_goto C dX3_readCommand_120 (tgt := 56) (by decide) ?_
                refine a_sub (lst2 := [(4, .int (nI (i + 1))), (3, .int (nI (tp_vn v))), (2, .ref (x_e G 0 v)), (0, .ref (x_b G + 168)), (1, .int (nI c9))]) [0, 3, 4, 5, 6] rfl ?_
                refine a_to (lst2 := [(4, .int (nI ((i + 1)))), (3, .int (nI (tp_vn v))), (2, .ref (x_e G 0 v)), (0, .ref (x_b G + 168)), (1, .int (nI c9))]) (st2 := []) (d2 := t_w d (nI (tp_ap tx L v (pp + x_wL v) ((i + 1)))) c9 (nI (v + 1)) (nI (tp_r1 tx L v (pp + x_wL v) ((i + 1)))) (nI (tp_r2 tx L v (pp + x_wL v) ((i + 1))))) rfl rfl rfl ?_
                exact ih (i + 1) (by omega) (by omega) (by rw [tp_af, if_pos ⟨hq, hvo⟩])
              · skip
                have hi0 : i = 0 := (nI_eq (b := 0) (by omega) (by omega)).mp h95
                refine a_aload_n C dX3_readCommand_98 5 rfl ?_
                refine a_getR C (k := 168) iX3 x_k168 rfl (j := 5) rfl (by decide) (by decide +kernel) dX3_readCommand_99 ?_
                refine a_iload_n C dX3_readCommand_102 6 rfl ?_
                refine a_iload C dX3_readCommand_103 0 rfl ?_
                refine a_iastN C (k := 171) x_k171 (i := c9) rfl (by omega) (by first | decide | omega) dX3_readCommand_105 ?_
                refine a_toD (d2 := t_w d (nI (tp_ap tx L v (pp + x_wL v) (i + 1))) c9 (nI (v + 1)) (nI (tp_r1 tx L v (pp + x_wL v) (i + 1))) (nI (tp_r2 tx L v (pp + x_wL v) (i + 1)))) (by rw [t_w_a]; subst hi0; rfl) ?_
                refine a_goto C dX3_readCommand_106 (tgt := 117) (by decide) ?_
                refine a_iinc C dX3_readCommand_117 2 rfl (v := (nI (i + 1))) (x_inc i) (by decide) (lst2 := [(4, .int (nI (i + 1))), (6, .int (nI (tp_vv tx L (tp_ap tx L v (pp + x_wL v) i) (tp_m v i)))), (5, .int (nI (tp_m v i))), (3, .int (nI (tp_vn v))), (2, .ref (x_e G 0 v)), (0, .ref (x_b G + 168)), (1, .int (nI c9))]) rfl ?_
                refine a_goto C dX3_readCommand_120 (tgt := 56) (by decide) ?_
                refine a_sub (lst2 := [(4, .int (nI (i + 1))), (3, .int (nI (tp_vn v))), (2, .ref (x_e G 0 v)), (0, .ref (x_b G + 168)), (1, .int (nI c9))]) [0, 3, 4, 5, 6] rfl ?_
                refine a_to (lst2 := [(4, .int (nI ((i + 1)))), (3, .int (nI (tp_vn v))), (2, .ref (x_e G 0 v)), (0, .ref (x_b G + 168)), (1, .int (nI c9))]) (st2 := []) (d2 := t_w d (nI (tp_ap tx L v (pp + x_wL v) ((i + 1)))) c9 (nI (v + 1)) (nI (tp_r1 tx L v (pp + x_wL v) ((i + 1)))) (nI (tp_r2 tx L v (pp + x_wL v) ((i + 1))))) rfl rfl rfl ?_
                exact ih (i + 1) (by omega) (by omega) (by rw [tp_af, if_pos ⟨hq, hvo⟩])
            · skip
              have haf9 := tp_af_stop tx L v (pp + x_wL v) i hvo hq (tp_vn v) (by omega)
              by_cases hc : tp_c tx L (tp_ap tx L v (pp + x_wL v) i) 32 = true
              · skip
                have hd : ¬ tp_dg tx L (tp_ap tx L v (pp + x_wL v) i + 1) = true := fun z => hvo (x_and_to hc z)
                refine a_callV C (k := 168) (As := [.int (nI (tp_m v i))]) (rest := []) (c_T_readValue_1 l G (t_w d (nI (tp_ap tx L v (pp + x_wL v) i)) c9 (nI (v + 1)) (nI (tp_r1 tx L v (pp + x_wL v) i)) (nI (tp_r2 tx L v (pp + x_wL v) i))) tx L hL (t_w_1 (by omega) |>.trans hln) (fun j hj => by rw [t_w_out (by omega) (by omega)]; exact htx j hj) ht7 (tp_ap tx L v (pp + x_wL v) i) t_w_2 hap (tp_m v i) (tp_m_le v i).2 hc hd) (cwV 1 C.1.2.2.2.2 gX3_readCommand_X3_readValue rfl rfl rfl (by decide +kernel) ⟨Nat.le_of_ble_eq_true rfl, Nat.le_of_ble_eq_true rfl⟩) x_k168 (q := (RX3, TX3, 7)) rfl rfl rfl rfl (Nat.le_of_ble_eq_true rfl) dX3_readCommand_81 ⟨Nat.le_of_ble_eq_true rfl, Nat.le_of_ble_eq_true rfl⟩ ?_
                refine a_toD (d2 := t_w d (nI (tp_ap tx L v (pp + x_wL v) (i + 1))) c9 (nI (v + 1)) (nI (tp_r1 tx L v (pp + x_wL v) i)) (nI (tp_r2 tx L v (pp + x_wL v) i))) (by rw [show tp_ap tx L v (pp + x_wL v) (i + 1) = tp_ap tx L v (pp + x_wL v) i + 1 from tp_vp_1 hc hd]; exact t_w_p) ?_
                refine a_istore C dX3_readCommand_84 (by decide) (lst2 := [(6, .int (-1)), (5, .int (nI (tp_m v i))), (4, .int (nI i)), (3, .int (nI (tp_vn v))), (2, .ref (x_e G 0 v)), (0, .ref (x_b G + 168)), (1, .int (nI c9))]) rfl ?_
                refine a_iload C dX3_readCommand_86 0 rfl ?_
                refine a_if_ge C dX3_readCommand_88 (tgt := 93) (by decide) (fun h => absurd h (by decide)) (fun _ => ?_)
                refine a_iconst C dX3_readCommand_91 (v := 0) (by decide) ?_
                exact a_zret C hlocks hr rfl dX3_readCommand_92 rfl (by rw [haf9])
              · skip
                refine a_callV C (k := 168) (As := [.int (nI (tp_m v i))]) (rest := []) (c_T_readValue_0 l G (t_w d (nI (tp_ap tx L v (pp + x_wL v) i)) c9 (nI (v + 1)) (nI (tp_r1 tx L v (pp + x_wL v) i)) (nI (tp_r2 tx L v (pp + x_wL v) i))) tx L hL (t_w_1 (by omega) |>.trans hln) (fun j hj => by rw [t_w_out (by omega) (by omega)]; exact htx j hj) ht7 (tp_ap tx L v (pp + x_wL v) i) t_w_2 hap (tp_m v i) (tp_m_le v i).2 hc) (cwV 1 C.1.2.2.2.2 gX3_readCommand_X3_readValue rfl rfl rfl (by decide +kernel) ⟨Nat.le_of_ble_eq_true rfl, Nat.le_of_ble_eq_true rfl⟩) x_k168 (q := (RX3, TX3, 7)) rfl rfl rfl rfl (Nat.le_of_ble_eq_true rfl) dX3_readCommand_81 ⟨Nat.le_of_ble_eq_true rfl, Nat.le_of_ble_eq_true rfl⟩ ?_
                refine a_toD (d2 := t_w d (nI (tp_ap tx L v (pp + x_wL v) (i + 1))) c9 (nI (v + 1)) (nI (tp_r1 tx L v (pp + x_wL v) i)) (nI (tp_r2 tx L v (pp + x_wL v) i))) (by rw [show tp_ap tx L v (pp + x_wL v) (i + 1) = tp_ap tx L v (pp + x_wL v) i from tp_vp_0 hc]) ?_
                refine a_istore C dX3_readCommand_84 (by decide) (lst2 := [(6, .int (-1)), (5, .int (nI (tp_m v i))), (4, .int (nI i)), (3, .int (nI (tp_vn v))), (2, .ref (x_e G 0 v)), (0, .ref (x_b G + 168)), (1, .int (nI c9))]) rfl ?_
                refine a_iload C dX3_readCommand_86 0 rfl ?_
                refine a_if_ge C dX3_readCommand_88 (tgt := 93) (by decide) (fun h => absurd h (by decide)) (fun _ => ?_)
                refine a_iconst C dX3_readCommand_91 (v := 0) (by decide) ?_
                exact a_zret C hlocks hr rfl dX3_readCommand_92 rfl (by rw [haf9])
    refine a_sub (lst2 := [(4, .int 0), (3, .int (nI (tp_vn v))), (2, .ref (x_e G 0 v)), (0, .ref (x_b G + 168)), (1, .int (nI c9))]) [0, 1, 2, 3, 4] rfl ?_
    exact L56 ((tp_vn v) + 1) 0 (by omega) (by omega) rfl
  · skip
    refine a_aload_n C dX3_readCommand_39 0 rfl ?_
    refine a_getVd C (v := v) (by first | assumption | omega) (by decide +kernel) dX3_readCommand_40 ?_
    refine a_top (y := (nI (tp_vd v))) hvd.1 ?_
    refine a_iconst C dX3_readCommand_43 (v := 1) (by decide) ?_
    refine a_iadd C dX3_readCommand_44 ?_
    refine a_top (y := (nI (tp_vd v + 1))) (nI_1 _) ?_
    refine a_goto C dX3_readCommand_45 (tgt := 52) (by decide) ?_
    refine a_top (y := nI (tp_vn v)) (congrArg nI (by unfold tp_vn; rw [if_neg h36])) ?_
    refine a_istore_n C dX3_readCommand_52 (by decide) (lst2 := [(3, .int (nI (tp_vn v))), (2, .ref (x_e G 0 v)), (0, .ref (x_b G + 168)), (1, .int (nI c9))]) rfl ?_
    refine a_iconst C dX3_readCommand_53 (v := 0) (by decide) ?_
    refine a_istore C dX3_readCommand_54 (by decide) (lst2 := [(4, .int 0), (3, .int (nI (tp_vn v))), (2, .ref (x_e G 0 v)), (0, .ref (x_b G + 168)), (1, .int (nI c9))]) rfl ?_
    have L56 : ∀ (j i : Nat), i ≤ (tp_vn v) → (tp_vn v) < i + j → tp_af tx L v (pp + x_wL v) i = i → Ab G p l e (x_rm 7 0 0) s m args below meth c 7 0 0 (MQ below (x_Q G (some (.int 0)) (t_w d (nI (tp_ap tx L v (pp + x_wL v) ((tp_af tx L v (pp + x_wL v) (tp_vn v)) + 1))) c9 (nI (v + 1)) (nI (tp_r1 tx L v (pp + x_wL v) (tp_af tx L v (pp + x_wL v) (tp_vn v)))) (nI (tp_r2 tx L v (pp + x_wL v) (tp_af tx L v (pp + x_wL v) (tp_vn v)))))) args s 0 0 (x_A G)) 56 [(4, .int (nI i)), (3, .int (nI (tp_vn v))), (2, .ref (x_e G 0 v)), (0, .ref (x_b G + 168)), (1, .int (nI c9))] [] (t_w d (nI (tp_ap tx L v (pp + x_wL v) i)) c9 (nI (v + 1)) (nI (tp_r1 tx L v (pp + x_wL v) i)) (nI (tp_r2 tx L v (pp + x_wL v) i))) := by
      intro j
      induction j with
      | zero => intro i h1 h2; exact absurd h2 (by omega)
      | succ j ih =>
        intro i hi hj hq
        refine a_iload C dX3_readCommand_56 0 rfl ?_
        refine a_iload_n C dX3_readCommand_58 1 rfl ?_
        refine a_icmp_ge C dX3_readCommand_59 (tgt := 123) (by decide) (fun h59 => ?_) (fun h59 => ?_)
        · skip
          have e := x_ge h59 hi (by omega)
          have e9 := e.symm
          subst e9
          clear e
          exact absurd hq haf
        · skip
          have hlt := x_nge h59 hi
          refine a_iload C dX3_readCommand_62 0 rfl ?_
          refine a_aload_n C dX3_readCommand_64 2 rfl ?_
          refine a_getVd C (v := v) (by first | assumption | omega) (by decide +kernel) dX3_readCommand_65 ?_
          refine a_top (y := (nI (tp_vd v))) hvd.1 ?_
          refine a_icmp_ge C dX3_readCommand_68 (tgt := 75) (by decide) (fun h68 => ?_) (fun h68 => ?_)
          · skip
            refine a_iconst C dX3_readCommand_75 (v := 3) (by decide) ?_
            refine a_top (y := nI (tp_m v i)) (congrArg nI (by unfold tp_m; rw [if_neg (fun z => nI_ge z (by omega) h68)])) ?_
            refine a_istore C dX3_readCommand_76 (by decide) (lst2 := [(5, .int (nI (tp_m v i))), (4, .int (nI i)), (3, .int (nI (tp_vn v))), (2, .ref (x_e G 0 v)), (0, .ref (x_b G + 168)), (1, .int (nI c9))]) rfl ?_
            refine a_aload_n C dX3_readCommand_78 4 rfl ?_
            refine a_iload C dX3_readCommand_79 0 rfl ?_
            have hap : tp_ap tx L v (pp + x_wL v) i ≤ L := tp_ap_le hqL i
            by_cases hvo : tp_vo tx L (tp_ap tx L v (pp + x_wL v) i) = true
            · skip
              obtain ⟨hc, hd⟩ := x_and_of hvo
              refine a_callV C (k := 168) (As := [.int (nI (tp_m v i))]) (rest := []) (c_T_readValue_2 l G (t_w d (nI (tp_ap tx L v (pp + x_wL v) i)) c9 (nI (v + 1)) (nI (tp_r1 tx L v (pp + x_wL v) i)) (nI (tp_r2 tx L v (pp + x_wL v) i))) tx L hL (t_w_1 (by omega) |>.trans hln) (fun j hj => by rw [t_w_out (by omega) (by omega)]; exact htx j hj) ht7 (tp_ap tx L v (pp + x_wL v) i) t_w_2 hap (tp_m v i) (tp_m_le v i).2 hc hd) (cwV 1 C.1.2.2.2.2 gX3_readCommand_X3_readValue rfl rfl rfl (by decide +kernel) ⟨Nat.le_of_ble_eq_true rfl, Nat.le_of_ble_eq_true rfl⟩) x_k168 (q := (RX3, TX3, 7)) rfl rfl rfl rfl (Nat.le_of_ble_eq_true rfl) dX3_readCommand_81 ⟨Nat.le_of_ble_eq_true rfl, Nat.le_of_ble_eq_true rfl⟩ ?_
              refine a_toD (d2 := t_w d (nI (tp_ap tx L v (pp + x_wL v) (i + 1))) c9 (nI (v + 1)) (nI (tp_r1 tx L v (pp + x_wL v) i)) (nI (tp_r2 tx L v (pp + x_wL v) i))) t_w_p ?_
              refine a_istore C dX3_readCommand_84 (by decide) (lst2 := [(6, .int (nI (tp_vv tx L (tp_ap tx L v (pp + x_wL v) i) (tp_m v i)))), (5, .int (nI (tp_m v i))), (4, .int (nI i)), (3, .int (nI (tp_vn v))), (2, .ref (x_e G 0 v)), (0, .ref (x_b G + 168)), (1, .int (nI c9))]) rfl ?_
              refine a_iload C dX3_readCommand_86 0 rfl ?_
              refine a_if_ge C dX3_readCommand_88 (tgt := 93) (by decide) (fun h88 => ?_) (fun h => False.elim (h (nI_pos' (by have := tp_vv_lt tx L (tp_ap tx L v (pp + x_wL v) i) (tp_m v i) (tp_m_le v i).2; omega))))
              refine a_iload C dX3_readCommand_93 2 rfl ?_
              refine a_if_ne C dX3_readCommand_95 (tgt := 109) (by decide) (fun h95 => ?_) (fun h95 => ?_)
              · skip
                have hi1 : i = 1 := x_one h95 (by omega)
                refine a_aload_n C dX3_readCommand_109 5 rfl ?_
                refine a_getR C (k := 168) iX3 x_k168 rfl (j := 6) rfl (by decide) (by decide +kernel) dX3_readCommand_110 ?_
                refine a_iload_n C dX3_readCommand_113 6 rfl ?_
                refine a_iload C dX3_readCommand_114 0 rfl ?_
                refine a_iastN C (k := 172) x_k172 (i := c9) rfl (by omega) (by first | decide | omega) dX3_readCommand_116 ?_
                refine a_toD (d2 := t_w d (nI (tp_ap tx L v (pp + x_wL v) (i + 1))) c9 (nI (v + 1)) (nI (tp_r1 tx L v (pp + x_wL v) (i + 1))) (nI (tp_r2 tx L v (pp + x_wL v) (i + 1)))) (by rw [t_w_b]; subst hi1; rfl) ?_
                refine a_iinc C dX3_readCommand_117 2 rfl (v := (nI (i + 1))) (x_inc i) (by decide) (lst2 := [(4, .int (nI (i + 1))), (6, .int (nI (tp_vv tx L (tp_ap tx L v (pp + x_wL v) i) (tp_m v i)))), (5, .int (nI (tp_m v i))), (3, .int (nI (tp_vn v))), (2, .ref (x_e G 0 v)), (0, .ref (x_b G + 168)), (1, .int (nI c9))]) rfl ?_
                refine a_goto C dX3_readCommand_120 (tgt := 56) (by decide) ?_
                refine a_sub (lst2 := [(4, .int (nI (i + 1))), (3, .int (nI (tp_vn v))), (2, .ref (x_e G 0 v)), (0, .ref (x_b G + 168)), (1, .int (nI c9))]) [0, 3, 4, 5, 6] rfl ?_
                refine a_to (lst2 := [(4, .int (nI ((i + 1)))), (3, .int (nI (tp_vn v))), (2, .ref (x_e G 0 v)), (0, .ref (x_b G + 168)), (1, .int (nI c9))]) (st2 := []) (d2 := t_w d (nI (tp_ap tx L v (pp + x_wL v) ((i + 1)))) c9 (nI (v + 1)) (nI (tp_r1 tx L v (pp + x_wL v) ((i + 1)))) (nI (tp_r2 tx L v (pp + x_wL v) ((i + 1))))) rfl rfl rfl ?_
                exact ih (i + 1) (by omega) (by omega) (by rw [tp_af, if_pos ⟨hq, hvo⟩])
              · skip
                have hi0 : i = 0 := (nI_eq (b := 0) (by omega) (by omega)).mp h95
                refine a_aload_n C dX3_readCommand_98 5 rfl ?_
                refine a_getR C (k := 168) iX3 x_k168 rfl (j := 5) rfl (by decide) (by decide +kernel) dX3_readCommand_99 ?_
                refine a_iload_n C dX3_readCommand_102 6 rfl ?_
                refine a_iload C dX3_readCommand_103 0 rfl ?_
                refine a_iastN C (k := 171) x_k171 (i := c9) rfl (by omega) (by first | decide | omega) dX3_readCommand_105 ?_
                refine a_toD (d2 := t_w d (nI (tp_ap tx L v (pp + x_wL v) (i + 1))) c9 (nI (v + 1)) (nI (tp_r1 tx L v (pp + x_wL v) (i + 1))) (nI (tp_r2 tx L v (pp + x_wL v) (i + 1)))) (by rw [t_w_a]; subst hi0; rfl) ?_
                refine a_goto C dX3_readCommand_106 (tgt := 117) (by decide) ?_
                refine a_iinc C dX3_readCommand_117 2 rfl (v := (nI (i + 1))) (x_inc i) (by decide) (lst2 := [(4, .int (nI (i + 1))), (6, .int (nI (tp_vv tx L (tp_ap tx L v (pp + x_wL v) i) (tp_m v i)))), (5, .int (nI (tp_m v i))), (3, .int (nI (tp_vn v))), (2, .ref (x_e G 0 v)), (0, .ref (x_b G + 168)), (1, .int (nI c9))]) rfl ?_
                refine a_goto C dX3_readCommand_120 (tgt := 56) (by decide) ?_
                refine a_sub (lst2 := [(4, .int (nI (i + 1))), (3, .int (nI (tp_vn v))), (2, .ref (x_e G 0 v)), (0, .ref (x_b G + 168)), (1, .int (nI c9))]) [0, 3, 4, 5, 6] rfl ?_
                refine a_to (lst2 := [(4, .int (nI ((i + 1)))), (3, .int (nI (tp_vn v))), (2, .ref (x_e G 0 v)), (0, .ref (x_b G + 168)), (1, .int (nI c9))]) (st2 := []) (d2 := t_w d (nI (tp_ap tx L v (pp + x_wL v) ((i + 1)))) c9 (nI (v + 1)) (nI (tp_r1 tx L v (pp + x_wL v) ((i + 1)))) (nI (tp_r2 tx L v (pp + x_wL v) ((i + 1))))) rfl rfl rfl ?_
                exact ih (i + 1) (by omega) (by omega) (by rw [tp_af, if_pos ⟨hq, hvo⟩])
            · skip
              have haf9 := tp_af_stop tx L v (pp + x_wL v) i hvo hq (tp_vn v) (by omega)
              by_cases hc : tp_c tx L (tp_ap tx L v (pp + x_wL v) i) 32 = true
              · skip
                have hd : ¬ tp_dg tx L (tp_ap tx L v (pp + x_wL v) i + 1) = true := fun z => hvo (x_and_to hc z)
                refine a_callV C (k := 168) (As := [.int (nI (tp_m v i))]) (rest := []) (c_T_readValue_1 l G (t_w d (nI (tp_ap tx L v (pp + x_wL v) i)) c9 (nI (v + 1)) (nI (tp_r1 tx L v (pp + x_wL v) i)) (nI (tp_r2 tx L v (pp + x_wL v) i))) tx L hL (t_w_1 (by omega) |>.trans hln) (fun j hj => by rw [t_w_out (by omega) (by omega)]; exact htx j hj) ht7 (tp_ap tx L v (pp + x_wL v) i) t_w_2 hap (tp_m v i) (tp_m_le v i).2 hc hd) (cwV 1 C.1.2.2.2.2 gX3_readCommand_X3_readValue rfl rfl rfl (by decide +kernel) ⟨Nat.le_of_ble_eq_true rfl, Nat.le_of_ble_eq_true rfl⟩) x_k168 (q := (RX3, TX3, 7)) rfl rfl rfl rfl (Nat.le_of_ble_eq_true rfl) dX3_readCommand_81 ⟨Nat.le_of_ble_eq_true rfl, Nat.le_of_ble_eq_true rfl⟩ ?_
                refine a_toD (d2 := t_w d (nI (tp_ap tx L v (pp + x_wL v) (i + 1))) c9 (nI (v + 1)) (nI (tp_r1 tx L v (pp + x_wL v) i)) (nI (tp_r2 tx L v (pp + x_wL v) i))) (by rw [show tp_ap tx L v (pp + x_wL v) (i + 1) = tp_ap tx L v (pp + x_wL v) i + 1 from tp_vp_1 hc hd]; exact t_w_p) ?_
                refine a_istore C dX3_readCommand_84 (by decide) (lst2 := [(6, .int (-1)), (5, .int (nI (tp_m v i))), (4, .int (nI i)), (3, .int (nI (tp_vn v))), (2, .ref (x_e G 0 v)), (0, .ref (x_b G + 168)), (1, .int (nI c9))]) rfl ?_
                refine a_iload C dX3_readCommand_86 0 rfl ?_
                refine a_if_ge C dX3_readCommand_88 (tgt := 93) (by decide) (fun h => absurd h (by decide)) (fun _ => ?_)
                refine a_iconst C dX3_readCommand_91 (v := 0) (by decide) ?_
                exact a_zret C hlocks hr rfl dX3_readCommand_92 rfl (by rw [haf9])
              · skip
                refine a_callV C (k := 168) (As := [.int (nI (tp_m v i))]) (rest := []) (c_T_readValue_0 l G (t_w d (nI (tp_ap tx L v (pp + x_wL v) i)) c9 (nI (v + 1)) (nI (tp_r1 tx L v (pp + x_wL v) i)) (nI (tp_r2 tx L v (pp + x_wL v) i))) tx L hL (t_w_1 (by omega) |>.trans hln) (fun j hj => by rw [t_w_out (by omega) (by omega)]; exact htx j hj) ht7 (tp_ap tx L v (pp + x_wL v) i) t_w_2 hap (tp_m v i) (tp_m_le v i).2 hc) (cwV 1 C.1.2.2.2.2 gX3_readCommand_X3_readValue rfl rfl rfl (by decide +kernel) ⟨Nat.le_of_ble_eq_true rfl, Nat.le_of_ble_eq_true rfl⟩) x_k168 (q := (RX3, TX3, 7)) rfl rfl rfl rfl (Nat.le_of_ble_eq_true rfl) dX3_readCommand_81 ⟨Nat.le_of_ble_eq_true rfl, Nat.le_of_ble_eq_true rfl⟩ ?_
                refine a_toD (d2 := t_w d (nI (tp_ap tx L v (pp + x_wL v) (i + 1))) c9 (nI (v + 1)) (nI (tp_r1 tx L v (pp + x_wL v) i)) (nI (tp_r2 tx L v (pp + x_wL v) i))) (by rw [show tp_ap tx L v (pp + x_wL v) (i + 1) = tp_ap tx L v (pp + x_wL v) i from tp_vp_0 hc]) ?_
                refine a_istore C dX3_readCommand_84 (by decide) (lst2 := [(6, .int (-1)), (5, .int (nI (tp_m v i))), (4, .int (nI i)), (3, .int (nI (tp_vn v))), (2, .ref (x_e G 0 v)), (0, .ref (x_b G + 168)), (1, .int (nI c9))]) rfl ?_
                refine a_iload C dX3_readCommand_86 0 rfl ?_
                refine a_if_ge C dX3_readCommand_88 (tgt := 93) (by decide) (fun h => absurd h (by decide)) (fun _ => ?_)
                refine a_iconst C dX3_readCommand_91 (v := 0) (by decide) ?_
                exact a_zret C hlocks hr rfl dX3_readCommand_92 rfl (by rw [haf9])
          · skip
            refine a_iconst C dX3_readCommand_71 (v := 1) (by decide) ?_
            refine a_goto C dX3_readCommand_72 (tgt := 76) (by decide) ?_
            refine a_top (y := nI (tp_m v i)) (congrArg nI (by unfold tp_m; rw [if_pos (Nat.lt_of_not_le (fun z => h68 (nI_le z (by omega))))])) ?_
            refine a_istore C dX3_readCommand_76 (by decide) (lst2 := [(5, .int (nI (tp_m v i))), (4, .int (nI i)), (3, .int (nI (tp_vn v))), (2, .ref (x_e G 0 v)), (0, .ref (x_b G + 168)), (1, .int (nI c9))]) rfl ?_
            refine a_aload_n C dX3_readCommand_78 4 rfl ?_
            refine a_iload C dX3_readCommand_79 0 rfl ?_
            have hap : tp_ap tx L v (pp + x_wL v) i ≤ L := tp_ap_le hqL i
            by_cases hvo : tp_vo tx L (tp_ap tx L v (pp + x_wL v) i) = true
            · skip
              obtain ⟨hc, hd⟩ := x_and_of hvo
              refine a_callV C (k := 168) (As := [.int (nI (tp_m v i))]) (rest := []) (c_T_readValue_2 l G (t_w d (nI (tp_ap tx L v (pp + x_wL v) i)) c9 (nI (v + 1)) (nI (tp_r1 tx L v (pp + x_wL v) i)) (nI (tp_r2 tx L v (pp + x_wL v) i))) tx L hL (t_w_1 (by omega) |>.trans hln) (fun j hj => by rw [t_w_out (by omega) (by omega)]; exact htx j hj) ht7 (tp_ap tx L v (pp + x_wL v) i) t_w_2 hap (tp_m v i) (tp_m_le v i).2 hc hd) (cwV 1 C.1.2.2.2.2 gX3_readCommand_X3_readValue rfl rfl rfl (by decide +kernel) ⟨Nat.le_of_ble_eq_true rfl, Nat.le_of_ble_eq_true rfl⟩) x_k168 (q := (RX3, TX3, 7)) rfl rfl rfl rfl (Nat.le_of_ble_eq_true rfl) dX3_readCommand_81 ⟨Nat.le_of_ble_eq_true rfl, Nat.le_of_ble_eq_true rfl⟩ ?_
              refine a_toD (d2 := t_w d (nI (tp_ap tx L v (pp + x_wL v) (i + 1))) c9 (nI (v + 1)) (nI (tp_r1 tx L v (pp + x_wL v) i)) (nI (tp_r2 tx L v (pp + x_wL v) i))) t_w_p ?_
              refine a_istore C dX3_readCommand_84 (by decide) (lst2 := [(6, .int (nI (tp_vv tx L (tp_ap tx L v (pp + x_wL v) i) (tp_m v i)))), (5, .int (nI (tp_m v i))), (4, .int (nI i)), (3, .int (nI (tp_vn v))), (2, .ref (x_e G 0 v)), (0, .ref (x_b G + 168)), (1, .int (nI c9))]) rfl ?_
              refine a_iload C dX3_readCommand_86 0 rfl ?_
              refine a_if_ge C dX3_readCommand_88 (tgt := 93) (by decide) (fun h88 => ?_) (fun h => False.elim (h (nI_pos' (by have := tp_vv_lt tx L (tp_ap tx L v (pp + x_wL v) i) (tp_m v i) (tp_m_le v i).2; omega))))
              refine a_iload C dX3_readCommand_93 2 rfl ?_
              refine a_if_ne C dX3_readCommand_95 (tgt := 109) (by decide) (fun h95 => ?_) (fun h95 => ?_)
              · skip
                have hi1 : i = 1 := x_one h95 (by omega)
                refine a_aload_n C dX3_readCommand_109 5 rfl ?_
                refine a_getR C (k := 168) iX3 x_k168 rfl (j := 6) rfl (by decide) (by decide +kernel) dX3_readCommand_110 ?_
                refine a_iload_n C dX3_readCommand_113 6 rfl ?_
                refine a_iload C dX3_readCommand_114 0 rfl ?_
                refine a_iastN C (k := 172) x_k172 (i := c9) rfl (by omega) (by first | decide | omega) dX3_readCommand_116 ?_
                refine a_toD (d2 := t_w d (nI (tp_ap tx L v (pp + x_wL v) (i + 1))) c9 (nI (v + 1)) (nI (tp_r1 tx L v (pp + x_wL v) (i + 1))) (nI (tp_r2 tx L v (pp + x_wL v) (i + 1)))) (by rw [t_w_b]; subst hi1; rfl) ?_
                refine a_iinc C dX3_readCommand_117 2 rfl (v := (nI (i + 1))) (x_inc i) (by decide) (lst2 := [(4, .int (nI (i + 1))), (6, .int (nI (tp_vv tx L (tp_ap tx L v (pp + x_wL v) i) (tp_m v i)))), (5, .int (nI (tp_m v i))), (3, .int (nI (tp_vn v))), (2, .ref (x_e G 0 v)), (0, .ref (x_b G + 168)), (1, .int (nI c9))]) rfl ?_
                refine a_goto C dX3_readCommand_120 (tgt := 56) (by decide) ?_
                refine a_sub (lst2 := [(4, .int (nI (i + 1))), (3, .int (nI (tp_vn v))), (2, .ref (x_e G 0 v)), (0, .ref (x_b G + 168)), (1, .int (nI c9))]) [0, 3, 4, 5, 6] rfl ?_
                refine a_to (lst2 := [(4, .int (nI ((i + 1)))), (3, .int (nI (tp_vn v))), (2, .ref (x_e G 0 v)), (0, .ref (x_b G + 168)), (1, .int (nI c9))]) (st2 := []) (d2 := t_w d (nI (tp_ap tx L v (pp + x_wL v) ((i + 1)))) c9 (nI (v + 1)) (nI (tp_r1 tx L v (pp + x_wL v) ((i + 1)))) (nI (tp_r2 tx L v (pp + x_wL v) ((i + 1))))) rfl rfl rfl ?_
                exact ih (i + 1) (by omega) (by omega) (by rw [tp_af, if_pos ⟨hq, hvo⟩])
              · skip
                have hi0 : i = 0 := (nI_eq (b := 0) (by omega) (by omega)).mp h95
                refine a_aload_n C dX3_readCommand_98 5 rfl ?_
                refine a_getR C (k := 168) iX3 x_k168 rfl (j := 5) rfl (by decide) (by decide +kernel) dX3_readCommand_99 ?_
                refine a_iload_n C dX3_readCommand_102 6 rfl ?_
                refine a_iload C dX3_readCommand_103 0 rfl ?_
                refine a_iastN C (k := 171) x_k171 (i := c9) rfl (by omega) (by first | decide | omega) dX3_readCommand_105 ?_
                refine a_toD (d2 := t_w d (nI (tp_ap tx L v (pp + x_wL v) (i + 1))) c9 (nI (v + 1)) (nI (tp_r1 tx L v (pp + x_wL v) (i + 1))) (nI (tp_r2 tx L v (pp + x_wL v) (i + 1)))) (by rw [t_w_a]; subst hi0; rfl) ?_
                refine a_goto C dX3_readCommand_106 (tgt := 117) (by decide) ?_
                refine a_iinc C dX3_readCommand_117 2 rfl (v := (nI (i + 1))) (x_inc i) (by decide) (lst2 := [(4, .int (nI (i + 1))), (6, .int (nI (tp_vv tx L (tp_ap tx L v (pp + x_wL v) i) (tp_m v i)))), (5, .int (nI (tp_m v i))), (3, .int (nI (tp_vn v))), (2, .ref (x_e G 0 v)), (0, .ref (x_b G + 168)), (1, .int (nI c9))]) rfl ?_
                refine a_goto C dX3_readCommand_120 (tgt := 56) (by decide) ?_
                refine a_sub (lst2 := [(4, .int (nI (i + 1))), (3, .int (nI (tp_vn v))), (2, .ref (x_e G 0 v)), (0, .ref (x_b G + 168)), (1, .int (nI c9))]) [0, 3, 4, 5, 6] rfl ?_
                refine a_to (lst2 := [(4, .int (nI ((i + 1)))), (3, .int (nI (tp_vn v))), (2, .ref (x_e G 0 v)), (0, .ref (x_b G + 168)), (1, .int (nI c9))]) (st2 := []) (d2 := t_w d (nI (tp_ap tx L v (pp + x_wL v) ((i + 1)))) c9 (nI (v + 1)) (nI (tp_r1 tx L v (pp + x_wL v) ((i + 1)))) (nI (tp_r2 tx L v (pp + x_wL v) ((i + 1))))) rfl rfl rfl ?_
                exact ih (i + 1) (by omega) (by omega) (by rw [tp_af, if_pos ⟨hq, hvo⟩])
            · skip
              have haf9 := tp_af_stop tx L v (pp + x_wL v) i hvo hq (tp_vn v) (by omega)
              by_cases hc : tp_c tx L (tp_ap tx L v (pp + x_wL v) i) 32 = true
              · skip
                have hd : ¬ tp_dg tx L (tp_ap tx L v (pp + x_wL v) i + 1) = true := fun z => hvo (x_and_to hc z)
                refine a_callV C (k := 168) (As := [.int (nI (tp_m v i))]) (rest := []) (c_T_readValue_1 l G (t_w d (nI (tp_ap tx L v (pp + x_wL v) i)) c9 (nI (v + 1)) (nI (tp_r1 tx L v (pp + x_wL v) i)) (nI (tp_r2 tx L v (pp + x_wL v) i))) tx L hL (t_w_1 (by omega) |>.trans hln) (fun j hj => by rw [t_w_out (by omega) (by omega)]; exact htx j hj) ht7 (tp_ap tx L v (pp + x_wL v) i) t_w_2 hap (tp_m v i) (tp_m_le v i).2 hc hd) (cwV 1 C.1.2.2.2.2 gX3_readCommand_X3_readValue rfl rfl rfl (by decide +kernel) ⟨Nat.le_of_ble_eq_true rfl, Nat.le_of_ble_eq_true rfl⟩) x_k168 (q := (RX3, TX3, 7)) rfl rfl rfl rfl (Nat.le_of_ble_eq_true rfl) dX3_readCommand_81 ⟨Nat.le_of_ble_eq_true rfl, Nat.le_of_ble_eq_true rfl⟩ ?_
                refine a_toD (d2 := t_w d (nI (tp_ap tx L v (pp + x_wL v) (i + 1))) c9 (nI (v + 1)) (nI (tp_r1 tx L v (pp + x_wL v) i)) (nI (tp_r2 tx L v (pp + x_wL v) i))) (by rw [show tp_ap tx L v (pp + x_wL v) (i + 1) = tp_ap tx L v (pp + x_wL v) i + 1 from tp_vp_1 hc hd]; exact t_w_p) ?_
                refine a_istore C dX3_readCommand_84 (by decide) (lst2 := [(6, .int (-1)), (5, .int (nI (tp_m v i))), (4, .int (nI i)), (3, .int (nI (tp_vn v))), (2, .ref (x_e G 0 v)), (0, .ref (x_b G + 168)), (1, .int (nI c9))]) rfl ?_
                refine a_iload C dX3_readCommand_86 0 rfl ?_
                refine a_if_ge C dX3_readCommand_88 (tgt := 93) (by decide) (fun h => absurd h (by decide)) (fun _ => ?_)
                refine a_iconst C dX3_readCommand_91 (v := 0) (by decide) ?_
                exact a_zret C hlocks hr rfl dX3_readCommand_92 rfl (by rw [haf9])
              · skip
                refine a_callV C (k := 168) (As := [.int (nI (tp_m v i))]) (rest := []) (c_T_readValue_0 l G (t_w d (nI (tp_ap tx L v (pp + x_wL v) i)) c9 (nI (v + 1)) (nI (tp_r1 tx L v (pp + x_wL v) i)) (nI (tp_r2 tx L v (pp + x_wL v) i))) tx L hL (t_w_1 (by omega) |>.trans hln) (fun j hj => by rw [t_w_out (by omega) (by omega)]; exact htx j hj) ht7 (tp_ap tx L v (pp + x_wL v) i) t_w_2 hap (tp_m v i) (tp_m_le v i).2 hc) (cwV 1 C.1.2.2.2.2 gX3_readCommand_X3_readValue rfl rfl rfl (by decide +kernel) ⟨Nat.le_of_ble_eq_true rfl, Nat.le_of_ble_eq_true rfl⟩) x_k168 (q := (RX3, TX3, 7)) rfl rfl rfl rfl (Nat.le_of_ble_eq_true rfl) dX3_readCommand_81 ⟨Nat.le_of_ble_eq_true rfl, Nat.le_of_ble_eq_true rfl⟩ ?_
                refine a_toD (d2 := t_w d (nI (tp_ap tx L v (pp + x_wL v) (i + 1))) c9 (nI (v + 1)) (nI (tp_r1 tx L v (pp + x_wL v) i)) (nI (tp_r2 tx L v (pp + x_wL v) i))) (by rw [show tp_ap tx L v (pp + x_wL v) (i + 1) = tp_ap tx L v (pp + x_wL v) i from tp_vp_0 hc]) ?_
                refine a_istore C dX3_readCommand_84 (by decide) (lst2 := [(6, .int (-1)), (5, .int (nI (tp_m v i))), (4, .int (nI i)), (3, .int (nI (tp_vn v))), (2, .ref (x_e G 0 v)), (0, .ref (x_b G + 168)), (1, .int (nI c9))]) rfl ?_
                refine a_iload C dX3_readCommand_86 0 rfl ?_
                refine a_if_ge C dX3_readCommand_88 (tgt := 93) (by decide) (fun h => absurd h (by decide)) (fun _ => ?_)
                refine a_iconst C dX3_readCommand_91 (v := 0) (by decide) ?_
                exact a_zret C hlocks hr rfl dX3_readCommand_92 rfl (by rw [haf9])
    refine a_sub (lst2 := [(4, .int 0), (3, .int (nI (tp_vn v))), (2, .ref (x_e G 0 v)), (0, .ref (x_b G + 168)), (1, .int (nI c9))]) [0, 1, 2, 3, 4] rfl ?_
    exact L56 ((tp_vn v) + 1) 0 (by omega) (by omega) rfl


