theorem x_upd_comm {z : Nat → Int32} {i j : Nat} {u v : Int32} (h : i ≠ j) : upd (upd z i u) j v = upd (upd z j v) i u := by
  funext b
  by_cases e1 : b = j
  · subst e1
    rw [x_upd_at, x_upd_ne (Ne.symm h), x_upd_at]
  · rw [x_upd_ne e1]
    by_cases e2 : b = i
    · subst e2
      rw [x_upd_at, x_upd_at]
    · rw [x_upd_ne e2, x_upd_ne e2, x_upd_ne e1]
theorem t_set3 {B : Nat} {d : xd} {o n q : Nat} {z : Nat → Int32} (h : r_T B d o z n q) {i : Nat} {x : Int32} (hi : i < n) (hv : ∃ a, 1 ≤ a ∧ a ≤ 9 ∧ x = nI a) : r_T B (x_p d (o + 3) i x) o (upd z (14 + i) x) n q := by
  obtain ⟨e, v, m9, bl⟩ := h
  have hn := v.1
  have hq := v.2.1
  exact ⟨e_l3 e hn hq (by omega), v_l3 v hv, m_cong m9 (fun _ _ => by rw [x_p_ne (by omega)]) (by rw [x_p_ne (by omega)]) (Nat.le_refl B), b_cong bl (fun _ _ => by rw [x_p_ne (by omega)]) (fun _ _ => by rw [x_p_ne (by omega)]) (fun _ _ => by rw [x_p_ne (by omega)]) (fun _ _ => by rw [x_p_ne (by omega)])⟩
theorem t_set4 {B : Nat} {d : xd} {o n q : Nat} {z : Nat → Int32} (h : r_T B d o z n q) {i : Nat} {x : Int32} (hi : i < n) (hv : ∃ a, 1 ≤ a ∧ a ≤ 5 ∧ x = nI a) : r_T B (x_p d (o + 4) i x) o (upd z (22 + i) x) n q := by
  obtain ⟨e, v, m9, bl⟩ := h
  have hn := v.1
  have hq := v.2.1
  exact ⟨e_l4 e hn hq (by omega), v_l4 v hv, m_cong m9 (fun _ _ => by rw [x_p_ne (by omega)]) (by rw [x_p_ne (by omega)]) (Nat.le_refl B), b_cong bl (fun _ _ => by rw [x_p_ne (by omega)]) (fun _ _ => by rw [x_p_ne (by omega)]) (fun _ _ => by rw [x_p_ne (by omega)]) (fun _ _ => by rw [x_p_ne (by omega)])⟩
theorem t_on {B : Nat} {d : xd} {o n q : Nat} {z : Nat → Int32} (h : r_T B d o z n q) {i : Nat} (hi : i < n) : r_T B (x_p d (o + 5) i 1) o (upd z (30 + i) 0) n q := by
  obtain ⟨e, v, m9, bl⟩ := h
  have hn := v.1
  have hq := v.2.1
  exact ⟨e_l5 (by decide) e hn hq (by omega), v_l5 v, m_cong m9 (fun _ _ => by rw [x_p_ne (by omega)]) (by rw [x_p_ne (by omega)]) (Nat.le_refl B), b_cong bl (fun _ _ => by rw [x_p_ne (by omega)]) (fun _ _ => by rw [x_p_ne (by omega)]) (fun _ _ => by rw [x_p_ne (by omega)]) (fun _ _ => by rw [x_p_ne (by omega)])⟩
theorem t_off {B : Nat} {d : xd} {o n q : Nat} {z : Nat → Int32} (h : r_T B d o z n q) {i : Nat} (hi : i < n) : r_T B (x_p d (o + 5) i 0) o (upd z (30 + i) 1) n q := by
  obtain ⟨e, v, m9, bl⟩ := h
  have hn := v.1
  have hq := v.2.1
  exact ⟨e_l5 (by decide) e hn hq (by omega), v_l5 v, m_cong m9 (fun _ _ => by rw [x_p_ne (by omega)]) (by rw [x_p_ne (by omega)]) (Nat.le_refl B), b_cong bl (fun _ _ => by rw [x_p_ne (by omega)]) (fun _ _ => by rw [x_p_ne (by omega)]) (fun _ _ => by rw [x_p_ne (by omega)]) (fun _ _ => by rw [x_p_ne (by omega)])⟩
theorem t_mvm {B : Nat} {d : xd} {o n q : Nat} {z : Nat → Int32} (h : r_T B d o z n q) {i : Nat} {x : Int32} (hi : i < q) (hv : x = -1 ∨ ∃ w, w < n ∧ x = nI w) : r_T B (x_p d (o + 10) i x) o (upd z (62 + i) (x + 1)) n q := by
  obtain ⟨e, v, m9, bl⟩ := h
  have hn := v.1
  have hq := v.2.1
  exact ⟨e_m10 (by grind) e hn hq (by omega), v_m10 v hv, m_cong m9 (fun _ _ => by rw [x_p_ne (by omega)]) (by rw [x_p_ne (by omega)]) (Nat.le_refl B), b_cong bl (fun _ _ => by rw [x_p_ne (by omega)]) (fun _ _ => by rw [x_p_ne (by omega)]) (fun _ _ => by rw [x_p_ne (by omega)]) (fun _ _ => by rw [x_p_ne (by omega)])⟩
theorem t_adm {B : Nat} {d : xd} {o n q : Nat} {z : Nat → Int32} (h : r_T B d o z n q) {i : Nat} (hi : i < n) (h6 : q < 6) : r_T B (f_appm d o q (nI i)) o (g_addm z i q) n (q + 1) := by
  obtain ⟨e, v, m9, bl⟩ := h
  have hn := v.1
  have hq := v.2.1
  unfold f_appm g_addm
  refine ⟨?_, ?_, m_cong m9 (fun _ _ => by rw [x_p_ne (by omega), x_p_ne (by omega), x_p_ne (by omega), x_p_ne (by omega)]) (by rw [x_p_ne (by omega), x_p_ne (by omega), x_p_ne (by omega), x_p_ne (by omega)]) (Nat.le_refl B), b_cong bl (fun _ _ => by rw [x_p_ne (by omega), x_p_ne (by omega), x_p_ne (by omega), x_p_ne (by omega)]) (fun _ _ => by rw [x_p_ne (by omega), x_p_ne (by omega), x_p_ne (by omega), x_p_ne (by omega)]) (fun _ _ => by rw [x_p_ne (by omega), x_p_ne (by omega), x_p_ne (by omega), x_p_ne (by omega)]) (fun _ _ => by rw [x_p_ne (by omega), x_p_ne (by omega), x_p_ne (by omega), x_p_ne (by omega)])⟩
  · refine e_q (e_m12 (e_m11 (e_m10 (by grind) e hn hq h6) hn hq h6) hn hq h6) ?_ hn h6
    refine ⟨?_, ?_, ?_⟩
    · rw [x_p_ne (by omega), x_p_ne (by omega), x_p_at, x_upd_ne (by omega), x_upd_ne (by omega), x_upd_at]
      grind
    · rw [x_p_ne (by omega), x_p_at, x_upd_ne (by omega), x_upd_at]
    · rw [x_p_at, x_upd_at]
  · refine v_q (v_m12 (v_m11 (v_m10 v (Or.inr ⟨i, hi, rfl⟩)) (Or.inl rfl)) ⟨3, by omega, rfl⟩) h6 ?_
    refine ⟨?_, ?_, ?_⟩
    · rw [x_p_ne (by omega), x_p_ne (by omega), x_p_at]; exact Or.inr ⟨i, hi, rfl⟩
    · rw [x_p_ne (by omega), x_p_at]; exact Or.inl rfl
    · rw [x_p_at]; exact ⟨3, by omega, rfl⟩
theorem t_don {B : Nat} {d : xd} {o n q : Nat} {z : Nat → Int32} (h : r_T B d o z n q) {u : Nat} (hu : ∃ a, a + u ≤ 99 ∧ d (o + 13) 1 = nI a) : r_T B (f_don d o (nI u)) o (upd z 4 (z 4 + nI u)) n q := by
  obtain ⟨e, v, m9, bl⟩ := h
  have hn := v.1
  have hq := v.2.1
  obtain ⟨a, ha, ha2⟩ := hu
  have e4 := e.2.2.2.2.2.2.2.2.1
  unfold f_don
  refine ⟨?_, ?_, m_cong m9 (fun _ _ => by rw [x_p_ne (by omega), x_p_ne (by omega)]) (by rw [x_p_row (by omega), x_p_row (by omega)]) (Nat.le_refl B), ?_⟩
  · rw [← e4]
    exact e_bx (e_b1 e hn hq) (by omega)
  · exact v_bx (v_b1 v ⟨a + u, ha, by rw [ha2, nI_add]⟩) (by omega)
  · have r13 : ∀ j, x_p (x_p d (o + 13) 1 (d (o + 13) 1 + nI u)) (o + 13) 7 (d (o + 13) 7 + nI u) (o + 13) j = if j = 7 then d (o + 13) 7 + nI u else if j = 1 then d (o + 13) 1 + nI u else d (o + 13) j := fun j => by grind [x_pa]
    unfold f_bal at bl ⊢
    simp only [r13]
    rw [x_p_ne (by omega), x_p_ne (by omega), x_p_ne (by omega), x_p_ne (by omega), x_p_ne (by omega), x_p_ne (by omega)]
    simp
    obtain ⟨b1, b2, b3⟩ := bl
    refine ⟨b1, ?_, b3⟩
    grind
theorem t_mvw {B : Nat} {d : xd} {o n q : Nat} {z : Nat → Int32} (h : r_T B d o z n q) {i : Nat} {u : Int32} (hi : i < n) (hw : ∃ a, a ≤ 9 ∧ d (o + 7) i + u = nI a) (hp : ∃ a, a ≤ 99 ∧ d (o + 13) 1 - u = nI a) : r_T B (f_mvw d o i u) o (upd (upd z (46 + i) (z (46 + i) + u)) 4 (z 4 - u)) n q := by
  obtain ⟨e, v, m9, bl⟩ := h
  have hn := v.1
  have hq := v.2.1
  have e4 := e.2.2.2.2.2.2.2.2.1
  have e7 := (e.2.2.2.2.1 i hi).2.2.2.2.2.1
  unfold f_mvw
  refine ⟨?_, ?_, m_cong m9 (fun _ _ => by rw [x_p_ne (by omega), x_p_ne (by omega)]) (by rw [x_p_ne (by omega), x_p_row (by omega)]) (Nat.le_refl B), ?_⟩
  · rw [x_upd_comm (by omega), ← e4, ← e7]
    exact e_l7 (e_b1 e hn hq) hn hq (by omega)
  · exact v_l7 (v_b1 v hp) hw
  · have r7 : x_p (x_p d (o + 13) 1 (d (o + 13) 1 - u)) (o + 7) i (d (o + 7) i + u) (o + 7) = upd (d (o + 7)) i (d (o + 7) i + u) := by rw [x_prow, x_p_ne (by omega)]
    have r13 : ∀ j, x_p (x_p d (o + 13) 1 (d (o + 13) 1 - u)) (o + 7) i (d (o + 7) i + u) (o + 13) j = if j = 1 then d (o + 13) 1 - u else d (o + 13) j := fun j => by grind [x_pa]
    unfold f_bal at bl ⊢
    simp only [r13, r7, f_sum_upd hi]
    rw [x_p_ne (by omega), x_p_ne (by omega), x_p_ne (by omega), x_p_ne (by omega)]
    simp
    obtain ⟨b1, b2, b3⟩ := bl
    refine ⟨b1, ?_, b3⟩
    grind
theorem t_sell {B : Nat} {d : xd} {o n q : Nat} {z : Nat → Int32} (h : r_T B d o z n q) {i u : Nat} (hi : i < n) (ho : ∃ a, a + u ≤ 60 ∧ d (o + 6) i = nI a) (hb : ¬ d (o + 8) i < nI u) (hB : B < 100000) (hu : u ≤ 60) : r_T B (f_sell d o i (nI u)) o (g_buys z (nI u) i) n q := by
  obtain ⟨e, v, m9, bl⟩ := h
  have hn := v.1
  have hq := v.2.1
  obtain ⟨e1, e2, e3, e4, e5, e6, e70, e71, e72, e73⟩ := e
  have e : r_E d o z n q := ⟨e1, e2, e3, e4, e5, e6, e70, e71, e72, e73⟩
  obtain ⟨a2, a3, a4, a5, a6, a7, a8⟩ := e5 i hi
  obtain ⟨a, ha, ha2⟩ := ho
  unfold f_sell g_buys
  refine ⟨?_, ?_, ?_, ?_⟩
  · rw [← e71, ← e73, ← a6, ← a8]
    exact e_b2 (e_l8 (e_l6 (e_b0 e hn hq) hn hq (by omega)) hn hq (by omega)) hn hq
  · exact v_bx (v_l8 (v_l6 (v_bx v (by omega)) ⟨a + u, ha, by rw [ha2, nI_add]⟩)) (by omega)
  · obtain ⟨b, t, h1, h2, h3⟩ := m9
    have hbi := h1 i hi
    have hle : b i ≤ f_sn b n := by
      have y := x_sn_mono b (i := i + 1) (n := n) hi
      rw [f_sn] at y
      omega
    have hge : u ≤ b i := by
      rcases Nat.lt_or_ge (b i) u with y | y
      · exact absurd (by rw [hbi]; exact nI_lt y (by omega)) hb
      · exact y
    refine ⟨fun j => if j = i then b i - u else b j, t + u, fun j hj => ?_, ?_, ?_⟩
    · show _ = nI (if j = i then b i - u else b j)
      rw [x_p_ne (by omega)]
      by_cases y : j = i
      · subst y
        rw [x_p_at, if_pos rfl, hbi, pk_sub hge]
      · rw [x_p_row y, x_p_ne (by omega), x_p_ne (by omega), if_neg y]
        exact h1 j hj
    · rw [x_p_at, h2, nI_add]
    · have y : f_sn (fun j => if j = i then b i - u else b j) n + b i = f_sn b n + (b i - u) := by
        have y9 := f_sn_upd (f := b) (g := fun j => if j = i then b i - u else b j) hi (fun j _ hj => if_neg hj)
        simpa using y9
      omega
  · have r6 : x_p (x_p (x_p (x_p d (o + 13) 0 (d (o + 13) 0 - nI u)) (o + 6) i (d (o + 6) i + nI u)) (o + 8) i (d (o + 8) i - nI u)) (o + 13) 2 (d (o + 13) 2 + nI u) (o + 6) = upd (d (o + 6)) i (d (o + 6) i + nI u) := by rw [x_p_ne (by omega), x_p_ne (by omega), x_prow, x_p_ne (by omega)]
    have r8 : x_p (x_p (x_p (x_p d (o + 13) 0 (d (o + 13) 0 - nI u)) (o + 6) i (d (o + 6) i + nI u)) (o + 8) i (d (o + 8) i - nI u)) (o + 13) 2 (d (o + 13) 2 + nI u) (o + 8) = upd (d (o + 8)) i (d (o + 8) i - nI u) := by rw [x_p_ne (by omega), x_prow, x_p_ne (by omega), x_p_ne (by omega)]
    have r7 : x_p (x_p (x_p (x_p d (o + 13) 0 (d (o + 13) 0 - nI u)) (o + 6) i (d (o + 6) i + nI u)) (o + 8) i (d (o + 8) i - nI u)) (o + 13) 2 (d (o + 13) 2 + nI u) (o + 7) = d (o + 7) := by rw [x_p_ne (by omega), x_p_ne (by omega), x_p_ne (by omega), x_p_ne (by omega)]
    have r13 : ∀ j, x_p (x_p (x_p (x_p d (o + 13) 0 (d (o + 13) 0 - nI u)) (o + 6) i (d (o + 6) i + nI u)) (o + 8) i (d (o + 8) i - nI u)) (o + 13) 2 (d (o + 13) 2 + nI u) (o + 13) j = if j = 2 then d (o + 13) 2 + nI u else if j = 0 then d (o + 13) 0 - nI u else d (o + 13) j := fun j => by grind [x_pa]
    unfold f_bal at bl ⊢
    simp only [r13, r6, r7, r8, f_sum_upd hi]
    simp
    obtain ⟨b1, b2, b3⟩ := bl
    refine ⟨?_, b2, ?_⟩
    · grind
    · grind
/-- rows changed at once: what is told of the new ones -/
theorem x_minmax {x y : Int32} : (if x < y then x else y) = if y < x then y else x := by
  by_cases h : x < y
  · rw [if_pos h, if_neg (Int32.not_lt.mpr (Int32.le_of_lt h))]
  · rw [if_neg h]
    by_cases h2 : y < x
    · rw [if_pos h2]
    · rw [if_neg h2]
      exact Int32.le_antisymm (Int32.not_lt.mp h) (Int32.not_lt.mp h2)
theorem f_cap_is (f : Nat → Int32) (x : Int32) : ∀ n j, f_cap f x n j = if j < n then (if x < f j then x else f j) else f j
  | 0, j => by rw [if_neg (Nat.not_lt_zero j)]; rfl
  | n + 1, j => by
    rw [f_cap]
    by_cases e : j = n
    · subst e
      rw [x_upd_at, f_cap_is f x j j, if_neg (Nat.lt_irrefl j), if_pos (Nat.lt_succ_self j)]
    · rw [x_upd_ne e, f_cap_is f x n j]
      by_cases y : j < n
      · rw [if_pos y, if_pos (show j < n + 1 by omega)]
      · rw [if_neg y, if_neg (show ¬ j < n + 1 by omega)]
theorem t_cap {B : Nat} {d : xd} {o n q : Nat} {z : Nat → Int32} (h : r_T B d o z n q) {x : Nat} (hx : 1 ≤ x ∧ x ≤ 5) : r_T B (x_r d (o + 4) (f_cap (d (o + 4)) (nI x) n)) o (g_cap z (nI x) n) n q := by
  obtain ⟨e, v, m9, bl⟩ := h
  have hn := v.1
  have hq := v.2.1
  have y0 : ∀ k, k ≠ o + 4 → x_r d (o + 4) (f_cap (d (o + 4)) (nI x) n) k = d k := fun k hk => x_r_ne2 hk
  refine ⟨?_, ?_, m_cong m9 (fun _ _ => by rw [y0 _ (by omega)]) (by rw [y0 _ (by omega)]) (Nat.le_refl B), b_cong bl (fun _ _ => by rw [y0 _ (by omega)]) (fun _ _ => by rw [y0 _ (by omega)]) (fun _ _ => by rw [y0 _ (by omega)]) (fun _ _ => by rw [y0 _ (by omega)])⟩
  · obtain ⟨e1, e2, e3, e4, e5, e6, e7⟩ := e
    have g : ∀ j, j < 22 ∨ 22 + n ≤ j → g_cap z (nI x) n j = z j := fun j hj => g_cap_out hj
    refine ⟨by rw [y0 _ (by omega)]; exact e1, by rw [g _ (by omega)]; exact e2, by rw [y0 _ (by omega)]; exact e3, by rw [g _ (by omega)]; exact e4, fun i hi => ?_, fun k hk => ?_, ?_⟩
    · obtain ⟨a2, a3, a4, a5, a6, a7, a8⟩ := e5 i hi
      refine ⟨by rw [y0 _ (by omega), g _ (by omega)]; exact a2, by rw [y0 _ (by omega), g _ (by omega)]; exact a3, ?_, by rw [y0 _ (by omega), g _ (by omega)]; exact a5, by rw [y0 _ (by omega), g _ (by omega)]; exact a6, by rw [y0 _ (by omega), g _ (by omega)]; exact a7, by rw [y0 _ (by omega), g _ (by omega)]; exact a8⟩
      rw [x_r_same, f_cap_is, if_pos hi, a4]
      unfold g_cap
      rw [if_pos (show 22 ≤ 22 + i ∧ 22 + i < 22 + n by omega), x_minmax]
    · rw [y0 _ (by omega), y0 _ (by omega), y0 _ (by omega), g _ (by omega), g _ (by omega), g _ (by omega)]
      exact e6 k hk
    · rw [y0 _ (by omega), g _ (by omega), g _ (by omega), g _ (by omega), g _ (by omega)]
      exact e7
  · obtain ⟨v1, v2, v3, v4, v5⟩ := v
    refine ⟨v1, v2, fun i hi => ?_, fun k hk => by rw [y0 _ (by omega), y0 _ (by omega), y0 _ (by omega)]; exact v4 k hk, by rw [y0 _ (by omega)]; exact v5⟩
    obtain ⟨a2, a3, a4, a6, a7⟩ := v3 i hi
    rw [y0 (o + 2) (by omega), y0 (o + 3) (by omega), y0 (o + 6) (by omega), y0 (o + 7) (by omega), x_r_same, f_cap_is, if_pos hi]
    refine ⟨a2, a3, ?_, a6, a7⟩
    by_cases y : nI x < d (o + 4) i
    · rw [if_pos y]
      exact ⟨x, hx.1, hx.2, rfl⟩
    · rw [if_neg y]
      exact a4


