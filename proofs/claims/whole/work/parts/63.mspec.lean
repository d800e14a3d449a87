/-! the model's reading is the text's meaning -/
theorem tw_mono (tx : Nat → Nat) (L p v : Nat) : ∀ k i, k ≤ i → tp_mg tx L p v k ≤ tp_mg tx L p v i := by
  intro k i h
  induction i with
  | zero =>
    have e : k = 0 := by omega
    subst e; exact Nat.le_refl _
  | succ i ih =>
    rcases Nat.lt_or_ge k (i + 1) with z | z
    · have h1 := ih (by omega)
      have h2 := tp_mg_le tx L p v i
      rw [tp_mg]
      split <;> omega
    · have e : k = i + 1 := by omega
      subst e; exact Nat.le_refl _
theorem tw_full (tx : Nat → Nat) (L p v : Nat) : ∀ k, tp_mg tx L p v k = k → ∀ i, i ≤ k → tp_mg tx L p v i = i := by
  intro k
  induction k with
  | zero =>
    intro _ i hi
    have e : i = 0 := by omega
    subst e; rfl
  | succ k ih =>
    intro h i hi
    rcases Nat.lt_or_ge i (k + 1) with z | z
    · refine ih ?_ i (by omega)
      rw [tp_mg] at h
      split at h
      · rename_i y
        exact y.1
      · have := tp_mg_le tx L p v k
        omega
    · have e : i = k + 1 := by omega
      subst e; exact h
def ms_c (tx : Nat → Nat) (L p v i : Nat) : Nat × Bool := if tp_mg tx L p v i = i then (p + i, false) else (p + tp_mg tx L p v i, true)
theorem ms_c_s {tx : Nat → Nat} {L p v i : Nat} : ms_nd tx L (ms_c tx L p v i) (x_wN v i) = ms_c tx L p v (i + 1) := by
  unfold ms_c
  by_cases h : tp_mg tx L p v i = i
  · rw [if_pos h]
    by_cases hc : tp_c tx L (p + i) (x_wN v i) = true
    · have e : tp_mg tx L p v (i + 1) = i + 1 := by rw [tp_mg, if_pos ⟨h, hc⟩]
      rw [if_pos e, ms_nd_t hc]
      rfl
    · have e : tp_mg tx L p v (i + 1) = i := by rw [tp_mg, if_neg (fun z => hc z.2), h]
      rw [if_neg (by omega), ms_nd_f hc, e]
  · have h2 := tp_mg_le tx L p v i
    have e : tp_mg tx L p v (i + 1) = tp_mg tx L p v i := by rw [tp_mg, if_neg (fun z => h z.1)]
    rw [if_neg h, if_neg (by omega), ms_nd_w, e]
theorem ms_c_1 {tx : Nat → Nat} {L p v : Nat} (h : tp_c tx L p (x_wN v 0) = true) : (p + 1, false) = ms_c tx L p v 1 := by
  have e : tp_mg tx L p v 1 = 1 := by rw [tp_mg, if_pos ⟨rfl, h⟩]
  unfold ms_c
  rw [if_pos e]
def ms_g (tx : Nat → Nat) (L p v a : Nat) : Nat × Bool := if tp_ml tx L p v = x_wL v then (if tp_af tx L v (p + x_wL v) a = a then (tp_ap tx L v (p + x_wL v) a, false) else (tp_ap tx L v (p + x_wL v) (tp_af tx L v (p + x_wL v) a + 1), true)) else (p + tp_ml tx L p v, true)
theorem ms_g_0 {tx : Nat → Nat} {L p v n : Nat} (h : x_wL v = n) : ms_c tx L p v n = ms_g tx L p v 0 := by
  unfold ms_c ms_g
  rw [← h]
  rfl
theorem ms_g_s {tx : Nat → Nat} {L p v a w : Nat} (hw : tp_m v a = w) : ms_fs tx L (ms_g tx L p v a) w = ms_g tx L p v (a + 1) := by
  unfold ms_g
  by_cases h : tp_ml tx L p v = x_wL v
  · rw [if_pos h, if_pos h]
    by_cases ha : tp_af tx L v (p + x_wL v) a = a
    · rw [if_pos ha]
      by_cases hv : tp_vo tx L (tp_ap tx L v (p + x_wL v) a) = true
      · have e : tp_af tx L v (p + x_wL v) (a + 1) = a + 1 := by rw [tp_af, if_pos ⟨ha, hv⟩]
        rw [if_pos e, ms_fs_ok hv, ← hw]
        rfl
      · have e : tp_af tx L v (p + x_wL v) (a + 1) = a := by rw [tp_af, if_neg (fun z => hv z.2), ha]
        rw [if_neg (by omega), e, ms_fs_no (by cases z : tp_vo tx L (tp_ap tx L v (p + x_wL v) a) <;> simp_all), ← hw]
        rfl
    · have h2 := tp_af_le tx L v (p + x_wL v) a
      have e : tp_af tx L v (p + x_wL v) (a + 1) = tp_af tx L v (p + x_wL v) a := by rw [tp_af, if_neg (fun z => ha z.1)]
      rw [if_neg ha, if_neg (by omega), ms_fs_t, e]
  · rw [if_neg h, if_neg h, ms_fs_t]
theorem ms_g_v {tx : Nat → Nat} {L p v a n w : Nat} (hw : tp_m v a = w) (h : tp_ml tx L p v = x_wL v) (hn : tp_af tx L v (p + x_wL v) n = n) (ha : a < n) : ms_fv tx L (ms_g tx L p v a) w = tp_vv tx L (tp_ap tx L v (p + x_wL v) a) (tp_m v a) := by
  have h1 := tp_af_pre tx L v (p + x_wL v) n a (by omega)
  have h2 : tp_vo tx L (tp_ap tx L v (p + x_wL v) a) = true := by
    by_cases z : tp_vo tx L (tp_ap tx L v (p + x_wL v) a) = true
    · exact z
    · have := tp_af_stop tx L v (p + x_wL v) a z h1 n (by omega)
      omega
  unfold ms_g
  rw [if_pos h, if_pos h1, ms_fv_ok h2, hw]
/-- v goes furthest -/
def tw_dom (tx : Nat → Nat) (L p v : Nat) : Prop := ∀ j, j < 13 → j ≠ v → tp_ml tx L p j ≤ tp_ml tx L p v ∧ tp_ml tx L p j ≠ x_wL j
theorem tw_mx {tx : Nat → Nat} {L p v : Nat} (hd : tw_dom tx L p v) (hv : v < 13) : tp_mx tx L p 13 = tp_ml tx L p v := by
  have h1 : ∀ i, i ≤ 13 → tp_mx tx L p i ≤ tp_ml tx L p v ∧ (v < i → tp_ml tx L p v ≤ tp_mx tx L p i) := by
    intro i
    induction i with
    | zero => exact fun _ => ⟨Nat.zero_le _, fun z => absurd z (Nat.not_lt_zero v)⟩
    | succ i ih =>
      intro hi
      obtain ⟨a, b⟩ := ih (by omega)
      rw [tp_mx]
      by_cases e : i = v
      · subst e
        exact ⟨by omega, fun _ => by omega⟩
      · have := (hd i (by omega) e).1
        exact ⟨by omega, fun z => by have := b (by omega); omega⟩
  have := h1 13 (Nat.le_refl _)
  have := this.2 hv
  omega
theorem tw_vb {tx : Nat → Nat} {L p v : Nat} (hd : tw_dom tx L p v) (hv : v < 13) : tp_vb tx L p = if tp_ml tx L p v = x_wL v then v else 13 := by
  by_cases h : tp_ml tx L p v = x_wL v
  · rw [if_pos h]
    exact tp_fv_yes tx L p v hv (fun j hj => (hd j (by omega) (by omega)).2) h 13 hv
  · rw [if_neg h]
    refine tp_fv_no tx L p 13 (fun j hj => ?_)
    by_cases e : j = v
    · rw [e]; exact h
    · exact (hd j hj e).2
def tp_mc (v : Nat) : Nat := ([108, 114, 105, 119, 103, 98, 111, 102, 109, 99, 110, 112, 117] : List Nat).getD v 0
/-- what parsesCommand leaves -/
def tm_R (tx : Nat → Nat) (L p k : Nat) (d d2 : xd) : Prop := d2 175 13 = nI (tp_ce tx L p) ∧ (tp_co tx L p → d2 175 14 = 0) ∧ (¬ tp_co tx L p → d2 175 14 = 1) ∧
  (tp_co tx L p → d2 182 k = nI (tp_mc (tp_vb tx L p)) ∧ (1 ≤ tp_vn (tp_vb tx L p) → d2 182 (k + 1) = nI (tp_v1 tx L p)) ∧ (2 ≤ tp_vn (tp_vb tx L p) → d2 182 (k + 2) = nI (tp_v2 tx L p))) ∧
  (∀ j, j ≠ 175 → j ≠ 182 → d2 j = d j) ∧ (∀ j, j ≠ 13 → j ≠ 14 → d2 175 j = d 175 j) ∧ (∀ j, j < k → d2 182 j = d 182 j)
theorem tw_end {tx : Nat → Nat} {L p v : Nat} (hd : tw_dom tx L p v) (hv : v < 13) : (ms_g tx L p v (tp_vn v)).1 = tp_ce tx L p ∧ (tp_co tx L p → (ms_g tx L p v (tp_vn v)).2 = false ∧ tp_vb tx L p = v ∧ tp_ml tx L p v = x_wL v ∧ tp_af tx L v (p + x_wL v) (tp_vn v) = tp_vn v) ∧ (¬ tp_co tx L p → (ms_g tx L p v (tp_vn v)).2 = true) := by
  have h1 := tw_vb hd hv
  have h2 := tw_mx hd hv
  unfold ms_g tp_ce tp_co
  by_cases h : tp_ml tx L p v = x_wL v
  · rw [if_pos h] at h1
    rw [if_pos h, h1, if_pos hv]
    by_cases ha : tp_af tx L v (p + x_wL v) (tp_vn v) = tp_vn v
    · rw [if_pos ha, if_pos ha]
      exact ⟨rfl, fun _ => ⟨rfl, rfl, h, ha⟩, fun z => absurd ⟨hv, ha⟩ z⟩
    · rw [if_neg ha, if_neg ha]
      exact ⟨rfl, fun z => absurd z.2 ha, fun _ => rfl⟩
  · rw [if_neg h] at h1
    rw [if_neg h, h1, if_neg (by omega), h2]
    exact ⟨rfl, fun z => absurd z.1 (by omega), fun _ => rfl⟩
theorem tw_c_eq {tx : Nat → Nat} {L p a b : Nat} (h1 : tp_c tx L p a = true) (h2 : tp_c tx L p b = true) : a = b := (of_decide_eq_true h1).2.symm.trans (of_decide_eq_true h2).2
theorem tw_ml0 {tx : Nat → Nat} {L p j : Nat} (h : ¬ tp_c tx L p (x_wN j 0) = true) : tp_ml tx L p j = 0 := tp_mg_stop tx L p j 0 (by rw [Nat.add_zero]; exact h) rfl (x_wL j) (Nat.zero_le _)
theorem tw_ml1 {tx : Nat → Nat} {L p j : Nat} (hj : j < 13) (h0 : tp_c tx L p (x_wN j 0) = true) (h : ¬ tp_c tx L (p + 1) (x_wN j 1) = true) : tp_ml tx L p j = 1 :=
  tp_mg_stop tx L p j 1 h (by rw [tp_mg, if_pos ⟨rfl, h0⟩]) (x_wL j) (by have := x_wL_lt j hj; omega)
theorem tw_ge1 {tx : Nat → Nat} {L p v : Nat} (hv : v < 13) (h0 : tp_c tx L p (x_wN v 0) = true) : 1 ≤ tp_ml tx L p v := by
  have h1 : tp_mg tx L p v 1 = 1 := by rw [tp_mg, if_pos ⟨rfl, h0⟩]
  have h2 := tw_mono tx L p v 1 (x_wL v) (by have := x_wL_lt v hv; omega)
  rw [h1] at h2
  exact h2
theorem tw_0 {tx : Nat → Nat} {L p v j : Nat} (hj : j < 13) (h : tp_ml tx L p j = 0) : tp_ml tx L p j ≤ tp_ml tx L p v ∧ tp_ml tx L p j ≠ x_wL j := by
  have := x_wL_lt j hj
  omega
theorem tw_1 {tx : Nat → Nat} {L p v j : Nat} (hj : j < 13) (hv : 1 ≤ tp_ml tx L p v) (h : tp_ml tx L p j = 1) : tp_ml tx L p j ≤ tp_ml tx L p v ∧ tp_ml tx L p j ≠ x_wL j := by
  have := x_wL_lt j hj
  omega
theorem tw_w0 : ∀ j, j < 13 → x_wN j 0 = ([108, 114, 111, 119, 103, 98, 111, 111, 109, 99, 110, 112, 98] : List Nat).getD j 0 := by decide +kernel

theorem tw_N_0_0 : x_wN 0 0 = 108 := by decide +kernel
theorem tw_N_0_1 : x_wN 0 1 = 97 := by decide +kernel
theorem tw_N_0_2 : x_wN 0 2 = 109 := by decide +kernel
theorem tw_N_0_3 : x_wN 0 3 = 112 := by decide +kernel
theorem tw_L_0 : x_wL 0 = 4 := by decide +kernel
theorem tw_n_0 : tp_vn 0 = 2 := by decide +kernel
theorem tw_m_0_0 : tp_m 0 0 = 1 := by decide +kernel
theorem tw_m_0_1 : tp_m 0 1 = 1 := by decide +kernel
theorem tw_N_1_0 : x_wN 1 0 = 114 := by decide +kernel
theorem tw_N_1_1 : x_wN 1 1 = 101 := by decide +kernel
theorem tw_N_1_2 : x_wN 1 2 = 109 := by decide +kernel
theorem tw_N_1_3 : x_wN 1 3 = 111 := by decide +kernel
theorem tw_N_1_4 : x_wN 1 4 = 118 := by decide +kernel
theorem tw_N_1_5 : x_wN 1 5 = 101 := by decide +kernel
theorem tw_L_1 : x_wL 1 = 6 := by decide +kernel
theorem tw_n_1 : tp_vn 1 = 1 := by decide +kernel
theorem tw_m_1_0 : tp_m 1 0 = 1 := by decide +kernel
theorem tw_N_2_0 : x_wN 2 0 = 111 := by decide +kernel
theorem tw_N_2_1 : x_wN 2 1 = 105 := by decide +kernel
theorem tw_N_2_2 : x_wN 2 2 = 108 := by decide +kernel
theorem tw_L_2 : x_wL 2 = 3 := by decide +kernel
theorem tw_n_2 : tp_vn 2 = 1 := by decide +kernel
theorem tw_m_2_0 : tp_m 2 0 = 3 := by decide +kernel
theorem tw_N_3_0 : x_wN 3 0 = 119 := by decide +kernel
theorem tw_N_3_1 : x_wN 3 1 = 105 := by decide +kernel
theorem tw_N_3_2 : x_wN 3 2 = 99 := by decide +kernel
theorem tw_N_3_3 : x_wN 3 3 = 107 := by decide +kernel
theorem tw_L_3 : x_wL 3 = 4 := by decide +kernel
theorem tw_n_3 : tp_vn 3 = 1 := by decide +kernel
theorem tw_m_3_0 : tp_m 3 0 = 3 := by decide +kernel
theorem tw_N_4_0 : x_wN 4 0 = 103 := by decide +kernel
theorem tw_N_4_1 : x_wN 4 1 = 105 := by decide +kernel
theorem tw_N_4_2 : x_wN 4 2 = 118 := by decide +kernel
theorem tw_N_4_3 : x_wN 4 3 = 101 := by decide +kernel
theorem tw_L_4 : x_wL 4 = 4 := by decide +kernel
theorem tw_n_4 : tp_vn 4 = 2 := by decide +kernel
theorem tw_m_4_0 : tp_m 4 0 = 1 := by decide +kernel
theorem tw_m_4_1 : tp_m 4 1 = 1 := by decide +kernel
theorem tw_N_5_0 : x_wN 5 0 = 98 := by decide +kernel
theorem tw_N_5_1 : x_wN 5 1 = 114 := by decide +kernel
theorem tw_N_5_2 : x_wN 5 2 = 105 := by decide +kernel
theorem tw_N_5_3 : x_wN 5 3 = 103 := by decide +kernel
theorem tw_N_5_4 : x_wN 5 4 = 104 := by decide +kernel
theorem tw_N_5_5 : x_wN 5 5 = 116 := by decide +kernel
theorem tw_L_5 : x_wL 5 = 6 := by decide +kernel
theorem tw_n_5 : tp_vn 5 = 2 := by decide +kernel
theorem tw_m_5_0 : tp_m 5 0 = 1 := by decide +kernel
theorem tw_m_5_1 : tp_m 5 1 = 1 := by decide +kernel
theorem tw_N_6_0 : x_wN 6 0 = 111 := by decide +kernel
theorem tw_N_6_1 : x_wN 6 1 = 110 := by decide +kernel
theorem tw_L_6 : x_wL 6 = 2 := by decide +kernel
theorem tw_n_6 : tp_vn 6 = 1 := by decide +kernel
theorem tw_m_6_0 : tp_m 6 0 = 1 := by decide +kernel
theorem tw_N_7_0 : x_wN 7 0 = 111 := by decide +kernel
theorem tw_N_7_1 : x_wN 7 1 = 102 := by decide +kernel
theorem tw_N_7_2 : x_wN 7 2 = 102 := by decide +kernel
theorem tw_L_7 : x_wL 7 = 3 := by decide +kernel
theorem tw_n_7 : tp_vn 7 = 1 := by decide +kernel
theorem tw_m_7_0 : tp_m 7 0 = 1 := by decide +kernel
theorem tw_N_8_0 : x_wN 8 0 = 109 := by decide +kernel
theorem tw_N_8_1 : x_wN 8 1 = 111 := by decide +kernel
theorem tw_N_8_2 : x_wN 8 2 = 116 := by decide +kernel
theorem tw_N_8_3 : x_wN 8 3 = 104 := by decide +kernel
theorem tw_L_8 : x_wL 8 = 4 := by decide +kernel
theorem tw_n_8 : tp_vn 8 = 1 := by decide +kernel
theorem tw_m_8_0 : tp_m 8 0 = 1 := by decide +kernel
theorem tw_N_9_0 : x_wN 9 0 = 99 := by decide +kernel
theorem tw_N_9_1 : x_wN 9 1 = 97 := by decide +kernel
theorem tw_N_9_2 : x_wN 9 2 = 112 := by decide +kernel
theorem tw_L_9 : x_wL 9 = 3 := by decide +kernel
theorem tw_n_9 : tp_vn 9 = 1 := by decide +kernel
theorem tw_m_9_0 : tp_m 9 0 = 1 := by decide +kernel
theorem tw_N_10_0 : x_wN 10 0 = 110 := by decide +kernel
theorem tw_N_10_1 : x_wN 10 1 = 105 := by decide +kernel
theorem tw_N_10_2 : x_wN 10 2 = 103 := by decide +kernel
theorem tw_N_10_3 : x_wN 10 3 = 104 := by decide +kernel
theorem tw_N_10_4 : x_wN 10 4 = 116 := by decide +kernel
theorem tw_L_10 : x_wL 10 = 5 := by decide +kernel
theorem tw_n_10 : tp_vn 10 = 0 := by decide +kernel
theorem tw_N_11_0 : x_wN 11 0 = 112 := by decide +kernel
theorem tw_N_11_1 : x_wN 11 1 = 97 := by decide +kernel
theorem tw_N_11_2 : x_wN 11 2 = 121 := by decide +kernel
theorem tw_L_11 : x_wL 11 = 3 := by decide +kernel
theorem tw_n_11 : tp_vn 11 = 0 := by decide +kernel
theorem tw_N_12_0 : x_wN 12 0 = 98 := by decide +kernel
theorem tw_N_12_1 : x_wN 12 1 = 117 := by decide +kernel
theorem tw_N_12_2 : x_wN 12 2 = 121 := by decide +kernel
theorem tw_L_12 : x_wL 12 = 3 := by decide +kernel
theorem tw_n_12 : tp_vn 12 = 2 := by decide +kernel
theorem tw_m_12_0 : tp_m 12 0 = 1 := by decide +kernel
theorem tw_m_12_1 : tp_m 12 1 = 3 := by decide +kernel
theorem tw_dom_0 {tx : Nat → Nat} {L p : Nat} (h0 : tp_c tx L p 108 = true) : tw_dom tx L p 0 := by
  have h1 : 1 ≤ tp_ml tx L p 0 := tw_ge1 (by omega) (by rw [tw_N_0_0]; exact h0)
  intro j hj hv
  have hjs : j = 1 ∨ j = 2 ∨ j = 3 ∨ j = 4 ∨ j = 5 ∨ j = 6 ∨ j = 7 ∨ j = 8 ∨ j = 9 ∨ j = 10 ∨ j = 11 ∨ j = 12 := by omega
  rcases hjs with rfl | rfl | rfl | rfl | rfl | rfl | rfl | rfl | rfl | rfl | rfl | rfl
  · exact tw_0 hj (tw_ml0 (fun z => absurd (tw_c_eq h0 z) (by rw [tw_N_1_0]; omega)))
  · exact tw_0 hj (tw_ml0 (fun z => absurd (tw_c_eq h0 z) (by rw [tw_N_2_0]; omega)))
  · exact tw_0 hj (tw_ml0 (fun z => absurd (tw_c_eq h0 z) (by rw [tw_N_3_0]; omega)))
  · exact tw_0 hj (tw_ml0 (fun z => absurd (tw_c_eq h0 z) (by rw [tw_N_4_0]; omega)))
  · exact tw_0 hj (tw_ml0 (fun z => absurd (tw_c_eq h0 z) (by rw [tw_N_5_0]; omega)))
  · exact tw_0 hj (tw_ml0 (fun z => absurd (tw_c_eq h0 z) (by rw [tw_N_6_0]; omega)))
  · exact tw_0 hj (tw_ml0 (fun z => absurd (tw_c_eq h0 z) (by rw [tw_N_7_0]; omega)))
  · exact tw_0 hj (tw_ml0 (fun z => absurd (tw_c_eq h0 z) (by rw [tw_N_8_0]; omega)))
  · exact tw_0 hj (tw_ml0 (fun z => absurd (tw_c_eq h0 z) (by rw [tw_N_9_0]; omega)))
  · exact tw_0 hj (tw_ml0 (fun z => absurd (tw_c_eq h0 z) (by rw [tw_N_10_0]; omega)))
  · exact tw_0 hj (tw_ml0 (fun z => absurd (tw_c_eq h0 z) (by rw [tw_N_11_0]; omega)))
  · exact tw_0 hj (tw_ml0 (fun z => absurd (tw_c_eq h0 z) (by rw [tw_N_12_0]; omega)))
theorem tw_dom_1 {tx : Nat → Nat} {L p : Nat} (h0 : tp_c tx L p 114 = true) : tw_dom tx L p 1 := by
  have h1 : 1 ≤ tp_ml tx L p 1 := tw_ge1 (by omega) (by rw [tw_N_1_0]; exact h0)
  intro j hj hv
  have hjs : j = 0 ∨ j = 2 ∨ j = 3 ∨ j = 4 ∨ j = 5 ∨ j = 6 ∨ j = 7 ∨ j = 8 ∨ j = 9 ∨ j = 10 ∨ j = 11 ∨ j = 12 := by omega
  rcases hjs with rfl | rfl | rfl | rfl | rfl | rfl | rfl | rfl | rfl | rfl | rfl | rfl
  · exact tw_0 hj (tw_ml0 (fun z => absurd (tw_c_eq h0 z) (by rw [tw_N_0_0]; omega)))
  · exact tw_0 hj (tw_ml0 (fun z => absurd (tw_c_eq h0 z) (by rw [tw_N_2_0]; omega)))
  · exact tw_0 hj (tw_ml0 (fun z => absurd (tw_c_eq h0 z) (by rw [tw_N_3_0]; omega)))
  · exact tw_0 hj (tw_ml0 (fun z => absurd (tw_c_eq h0 z) (by rw [tw_N_4_0]; omega)))
  · exact tw_0 hj (tw_ml0 (fun z => absurd (tw_c_eq h0 z) (by rw [tw_N_5_0]; omega)))
  · exact tw_0 hj (tw_ml0 (fun z => absurd (tw_c_eq h0 z) (by rw [tw_N_6_0]; omega)))
  · exact tw_0 hj (tw_ml0 (fun z => absurd (tw_c_eq h0 z) (by rw [tw_N_7_0]; omega)))
  · exact tw_0 hj (tw_ml0 (fun z => absurd (tw_c_eq h0 z) (by rw [tw_N_8_0]; omega)))
  · exact tw_0 hj (tw_ml0 (fun z => absurd (tw_c_eq h0 z) (by rw [tw_N_9_0]; omega)))
  · exact tw_0 hj (tw_ml0 (fun z => absurd (tw_c_eq h0 z) (by rw [tw_N_10_0]; omega)))
  · exact tw_0 hj (tw_ml0 (fun z => absurd (tw_c_eq h0 z) (by rw [tw_N_11_0]; omega)))
  · exact tw_0 hj (tw_ml0 (fun z => absurd (tw_c_eq h0 z) (by rw [tw_N_12_0]; omega)))
theorem tw_dom_2 {tx : Nat → Nat} {L p : Nat} (hc : tp_c tx L (p + 1) 105 = true) (h0 : tp_c tx L p 111 = true) : tw_dom tx L p 2 := by
  have h1 : 1 ≤ tp_ml tx L p 2 := tw_ge1 (by omega) (by rw [tw_N_2_0]; exact h0)
  intro j hj hv
  have hjs : j = 0 ∨ j = 1 ∨ j = 3 ∨ j = 4 ∨ j = 5 ∨ j = 6 ∨ j = 7 ∨ j = 8 ∨ j = 9 ∨ j = 10 ∨ j = 11 ∨ j = 12 := by omega
  rcases hjs with rfl | rfl | rfl | rfl | rfl | rfl | rfl | rfl | rfl | rfl | rfl | rfl
  · exact tw_0 hj (tw_ml0 (fun z => absurd (tw_c_eq h0 z) (by rw [tw_N_0_0]; omega)))
  · exact tw_0 hj (tw_ml0 (fun z => absurd (tw_c_eq h0 z) (by rw [tw_N_1_0]; omega)))
  · exact tw_0 hj (tw_ml0 (fun z => absurd (tw_c_eq h0 z) (by rw [tw_N_3_0]; omega)))
  · exact tw_0 hj (tw_ml0 (fun z => absurd (tw_c_eq h0 z) (by rw [tw_N_4_0]; omega)))
  · exact tw_0 hj (tw_ml0 (fun z => absurd (tw_c_eq h0 z) (by rw [tw_N_5_0]; omega)))
  · exact tw_1 hj h1 (tw_ml1 hj (by rw [tw_N_6_0]; exact h0) (fun z => absurd (tw_c_eq hc z) (by rw [tw_N_6_1]; omega)))
  · exact tw_1 hj h1 (tw_ml1 hj (by rw [tw_N_7_0]; exact h0) (fun z => absurd (tw_c_eq hc z) (by rw [tw_N_7_1]; omega)))
  · exact tw_0 hj (tw_ml0 (fun z => absurd (tw_c_eq h0 z) (by rw [tw_N_8_0]; omega)))
  · exact tw_0 hj (tw_ml0 (fun z => absurd (tw_c_eq h0 z) (by rw [tw_N_9_0]; omega)))
  · exact tw_0 hj (tw_ml0 (fun z => absurd (tw_c_eq h0 z) (by rw [tw_N_10_0]; omega)))
  · exact tw_0 hj (tw_ml0 (fun z => absurd (tw_c_eq h0 z) (by rw [tw_N_11_0]; omega)))
  · exact tw_0 hj (tw_ml0 (fun z => absurd (tw_c_eq h0 z) (by rw [tw_N_12_0]; omega)))
theorem tw_dom_3 {tx : Nat → Nat} {L p : Nat} (h0 : tp_c tx L p 119 = true) : tw_dom tx L p 3 := by
  have h1 : 1 ≤ tp_ml tx L p 3 := tw_ge1 (by omega) (by rw [tw_N_3_0]; exact h0)
  intro j hj hv
  have hjs : j = 0 ∨ j = 1 ∨ j = 2 ∨ j = 4 ∨ j = 5 ∨ j = 6 ∨ j = 7 ∨ j = 8 ∨ j = 9 ∨ j = 10 ∨ j = 11 ∨ j = 12 := by omega
  rcases hjs with rfl | rfl | rfl | rfl | rfl | rfl | rfl | rfl | rfl | rfl | rfl | rfl
  · exact tw_0 hj (tw_ml0 (fun z => absurd (tw_c_eq h0 z) (by rw [tw_N_0_0]; omega)))
  · exact tw_0 hj (tw_ml0 (fun z => absurd (tw_c_eq h0 z) (by rw [tw_N_1_0]; omega)))
  · exact tw_0 hj (tw_ml0 (fun z => absurd (tw_c_eq h0 z) (by rw [tw_N_2_0]; omega)))
  · exact tw_0 hj (tw_ml0 (fun z => absurd (tw_c_eq h0 z) (by rw [tw_N_4_0]; omega)))
  · exact tw_0 hj (tw_ml0 (fun z => absurd (tw_c_eq h0 z) (by rw [tw_N_5_0]; omega)))
  · exact tw_0 hj (tw_ml0 (fun z => absurd (tw_c_eq h0 z) (by rw [tw_N_6_0]; omega)))
  · exact tw_0 hj (tw_ml0 (fun z => absurd (tw_c_eq h0 z) (by rw [tw_N_7_0]; omega)))
  · exact tw_0 hj (tw_ml0 (fun z => absurd (tw_c_eq h0 z) (by rw [tw_N_8_0]; omega)))
  · exact tw_0 hj (tw_ml0 (fun z => absurd (tw_c_eq h0 z) (by rw [tw_N_9_0]; omega)))
  · exact tw_0 hj (tw_ml0 (fun z => absurd (tw_c_eq h0 z) (by rw [tw_N_10_0]; omega)))
  · exact tw_0 hj (tw_ml0 (fun z => absurd (tw_c_eq h0 z) (by rw [tw_N_11_0]; omega)))
  · exact tw_0 hj (tw_ml0 (fun z => absurd (tw_c_eq h0 z) (by rw [tw_N_12_0]; omega)))
theorem tw_dom_4 {tx : Nat → Nat} {L p : Nat} (h0 : tp_c tx L p 103 = true) : tw_dom tx L p 4 := by
  have h1 : 1 ≤ tp_ml tx L p 4 := tw_ge1 (by omega) (by rw [tw_N_4_0]; exact h0)
  intro j hj hv
  have hjs : j = 0 ∨ j = 1 ∨ j = 2 ∨ j = 3 ∨ j = 5 ∨ j = 6 ∨ j = 7 ∨ j = 8 ∨ j = 9 ∨ j = 10 ∨ j = 11 ∨ j = 12 := by omega
  rcases hjs with rfl | rfl | rfl | rfl | rfl | rfl | rfl | rfl | rfl | rfl | rfl | rfl
  · exact tw_0 hj (tw_ml0 (fun z => absurd (tw_c_eq h0 z) (by rw [tw_N_0_0]; omega)))
  · exact tw_0 hj (tw_ml0 (fun z => absurd (tw_c_eq h0 z) (by rw [tw_N_1_0]; omega)))
  · exact tw_0 hj (tw_ml0 (fun z => absurd (tw_c_eq h0 z) (by rw [tw_N_2_0]; omega)))
  · exact tw_0 hj (tw_ml0 (fun z => absurd (tw_c_eq h0 z) (by rw [tw_N_3_0]; omega)))
  · exact tw_0 hj (tw_ml0 (fun z => absurd (tw_c_eq h0 z) (by rw [tw_N_5_0]; omega)))
  · exact tw_0 hj (tw_ml0 (fun z => absurd (tw_c_eq h0 z) (by rw [tw_N_6_0]; omega)))
  · exact tw_0 hj (tw_ml0 (fun z => absurd (tw_c_eq h0 z) (by rw [tw_N_7_0]; omega)))
  · exact tw_0 hj (tw_ml0 (fun z => absurd (tw_c_eq h0 z) (by rw [tw_N_8_0]; omega)))
  · exact tw_0 hj (tw_ml0 (fun z => absurd (tw_c_eq h0 z) (by rw [tw_N_9_0]; omega)))
  · exact tw_0 hj (tw_ml0 (fun z => absurd (tw_c_eq h0 z) (by rw [tw_N_10_0]; omega)))
  · exact tw_0 hj (tw_ml0 (fun z => absurd (tw_c_eq h0 z) (by rw [tw_N_11_0]; omega)))
  · exact tw_0 hj (tw_ml0 (fun z => absurd (tw_c_eq h0 z) (by rw [tw_N_12_0]; omega)))
theorem tw_dom_5 {tx : Nat → Nat} {L p : Nat} (hn : ¬ tp_c tx L (p + 1) 117 = true) (h0 : tp_c tx L p 98 = true) : tw_dom tx L p 5 := by
  have h1 : 1 ≤ tp_ml tx L p 5 := tw_ge1 (by omega) (by rw [tw_N_5_0]; exact h0)
  intro j hj hv
  have hjs : j = 0 ∨ j = 1 ∨ j = 2 ∨ j = 3 ∨ j = 4 ∨ j = 6 ∨ j = 7 ∨ j = 8 ∨ j = 9 ∨ j = 10 ∨ j = 11 ∨ j = 12 := by omega
  rcases hjs with rfl | rfl | rfl | rfl | rfl | rfl | rfl | rfl | rfl | rfl | rfl | rfl
  · exact tw_0 hj (tw_ml0 (fun z => absurd (tw_c_eq h0 z) (by rw [tw_N_0_0]; omega)))
  · exact tw_0 hj (tw_ml0 (fun z => absurd (tw_c_eq h0 z) (by rw [tw_N_1_0]; omega)))
  · exact tw_0 hj (tw_ml0 (fun z => absurd (tw_c_eq h0 z) (by rw [tw_N_2_0]; omega)))
  · exact tw_0 hj (tw_ml0 (fun z => absurd (tw_c_eq h0 z) (by rw [tw_N_3_0]; omega)))
  · exact tw_0 hj (tw_ml0 (fun z => absurd (tw_c_eq h0 z) (by rw [tw_N_4_0]; omega)))
  · exact tw_0 hj (tw_ml0 (fun z => absurd (tw_c_eq h0 z) (by rw [tw_N_6_0]; omega)))
  · exact tw_0 hj (tw_ml0 (fun z => absurd (tw_c_eq h0 z) (by rw [tw_N_7_0]; omega)))
  · exact tw_0 hj (tw_ml0 (fun z => absurd (tw_c_eq h0 z) (by rw [tw_N_8_0]; omega)))
  · exact tw_0 hj (tw_ml0 (fun z => absurd (tw_c_eq h0 z) (by rw [tw_N_9_0]; omega)))
  · exact tw_0 hj (tw_ml0 (fun z => absurd (tw_c_eq h0 z) (by rw [tw_N_10_0]; omega)))
  · exact tw_0 hj (tw_ml0 (fun z => absurd (tw_c_eq h0 z) (by rw [tw_N_11_0]; omega)))
  · exact tw_1 hj h1 (tw_ml1 hj (by rw [tw_N_12_0]; exact h0) (fun z => hn (by rw [tw_N_12_1] at z; exact z)))
theorem tw_dom_6 {tx : Nat → Nat} {L p : Nat} (hn : ¬ tp_c tx L (p + 1) 105 = true) (hn2 : ¬ tp_c tx L (p + 1) 102 = true) (h0 : tp_c tx L p 111 = true) : tw_dom tx L p 6 := by
  have h1 : 1 ≤ tp_ml tx L p 6 := tw_ge1 (by omega) (by rw [tw_N_6_0]; exact h0)
  intro j hj hv
  have hjs : j = 0 ∨ j = 1 ∨ j = 2 ∨ j = 3 ∨ j = 4 ∨ j = 5 ∨ j = 7 ∨ j = 8 ∨ j = 9 ∨ j = 10 ∨ j = 11 ∨ j = 12 := by omega
  rcases hjs with rfl | rfl | rfl | rfl | rfl | rfl | rfl | rfl | rfl | rfl | rfl | rfl
  · exact tw_0 hj (tw_ml0 (fun z => absurd (tw_c_eq h0 z) (by rw [tw_N_0_0]; omega)))
  · exact tw_0 hj (tw_ml0 (fun z => absurd (tw_c_eq h0 z) (by rw [tw_N_1_0]; omega)))
  · exact tw_1 hj h1 (tw_ml1 hj (by rw [tw_N_2_0]; exact h0) (fun z => hn (by rw [tw_N_2_1] at z; exact z)))
  · exact tw_0 hj (tw_ml0 (fun z => absurd (tw_c_eq h0 z) (by rw [tw_N_3_0]; omega)))
  · exact tw_0 hj (tw_ml0 (fun z => absurd (tw_c_eq h0 z) (by rw [tw_N_4_0]; omega)))
  · exact tw_0 hj (tw_ml0 (fun z => absurd (tw_c_eq h0 z) (by rw [tw_N_5_0]; omega)))
  · exact tw_1 hj h1 (tw_ml1 hj (by rw [tw_N_7_0]; exact h0) (fun z => hn2 (by rw [tw_N_7_1] at z; exact z)))
  · exact tw_0 hj (tw_ml0 (fun z => absurd (tw_c_eq h0 z) (by rw [tw_N_8_0]; omega)))
  · exact tw_0 hj (tw_ml0 (fun z => absurd (tw_c_eq h0 z) (by rw [tw_N_9_0]; omega)))
  · exact tw_0 hj (tw_ml0 (fun z => absurd (tw_c_eq h0 z) (by rw [tw_N_10_0]; omega)))
  · exact tw_0 hj (tw_ml0 (fun z => absurd (tw_c_eq h0 z) (by rw [tw_N_11_0]; omega)))
  · exact tw_0 hj (tw_ml0 (fun z => absurd (tw_c_eq h0 z) (by rw [tw_N_12_0]; omega)))
theorem tw_dom_7 {tx : Nat → Nat} {L p : Nat} (hn : ¬ tp_c tx L (p + 1) 105 = true) (hc : tp_c tx L (p + 1) 102 = true) (h0 : tp_c tx L p 111 = true) : tw_dom tx L p 7 := by
  have h1 : 1 ≤ tp_ml tx L p 7 := tw_ge1 (by omega) (by rw [tw_N_7_0]; exact h0)
  intro j hj hv
  have hjs : j = 0 ∨ j = 1 ∨ j = 2 ∨ j = 3 ∨ j = 4 ∨ j = 5 ∨ j = 6 ∨ j = 8 ∨ j = 9 ∨ j = 10 ∨ j = 11 ∨ j = 12 := by omega
  rcases hjs with rfl | rfl | rfl | rfl | rfl | rfl | rfl | rfl | rfl | rfl | rfl | rfl
  · exact tw_0 hj (tw_ml0 (fun z => absurd (tw_c_eq h0 z) (by rw [tw_N_0_0]; omega)))
  · exact tw_0 hj (tw_ml0 (fun z => absurd (tw_c_eq h0 z) (by rw [tw_N_1_0]; omega)))
  · exact tw_1 hj h1 (tw_ml1 hj (by rw [tw_N_2_0]; exact h0) (fun z => hn (by rw [tw_N_2_1] at z; exact z)))
  · exact tw_0 hj (tw_ml0 (fun z => absurd (tw_c_eq h0 z) (by rw [tw_N_3_0]; omega)))
  · exact tw_0 hj (tw_ml0 (fun z => absurd (tw_c_eq h0 z) (by rw [tw_N_4_0]; omega)))
  · exact tw_0 hj (tw_ml0 (fun z => absurd (tw_c_eq h0 z) (by rw [tw_N_5_0]; omega)))
  · exact tw_1 hj h1 (tw_ml1 hj (by rw [tw_N_6_0]; exact h0) (fun z => absurd (tw_c_eq hc z) (by rw [tw_N_6_1]; omega)))
  · exact tw_0 hj (tw_ml0 (fun z => absurd (tw_c_eq h0 z) (by rw [tw_N_8_0]; omega)))
  · exact tw_0 hj (tw_ml0 (fun z => absurd (tw_c_eq h0 z) (by rw [tw_N_9_0]; omega)))
  · exact tw_0 hj (tw_ml0 (fun z => absurd (tw_c_eq h0 z) (by rw [tw_N_10_0]; omega)))
  · exact tw_0 hj (tw_ml0 (fun z => absurd (tw_c_eq h0 z) (by rw [tw_N_11_0]; omega)))
  · exact tw_0 hj (tw_ml0 (fun z => absurd (tw_c_eq h0 z) (by rw [tw_N_12_0]; omega)))
theorem tw_dom_8 {tx : Nat → Nat} {L p : Nat} (h0 : tp_c tx L p 109 = true) : tw_dom tx L p 8 := by
  have h1 : 1 ≤ tp_ml tx L p 8 := tw_ge1 (by omega) (by rw [tw_N_8_0]; exact h0)
  intro j hj hv
  have hjs : j = 0 ∨ j = 1 ∨ j = 2 ∨ j = 3 ∨ j = 4 ∨ j = 5 ∨ j = 6 ∨ j = 7 ∨ j = 9 ∨ j = 10 ∨ j = 11 ∨ j = 12 := by omega
  rcases hjs with rfl | rfl | rfl | rfl | rfl | rfl | rfl | rfl | rfl | rfl | rfl | rfl
  · exact tw_0 hj (tw_ml0 (fun z => absurd (tw_c_eq h0 z) (by rw [tw_N_0_0]; omega)))
  · exact tw_0 hj (tw_ml0 (fun z => absurd (tw_c_eq h0 z) (by rw [tw_N_1_0]; omega)))
  · exact tw_0 hj (tw_ml0 (fun z => absurd (tw_c_eq h0 z) (by rw [tw_N_2_0]; omega)))
  · exact tw_0 hj (tw_ml0 (fun z => absurd (tw_c_eq h0 z) (by rw [tw_N_3_0]; omega)))
  · exact tw_0 hj (tw_ml0 (fun z => absurd (tw_c_eq h0 z) (by rw [tw_N_4_0]; omega)))
  · exact tw_0 hj (tw_ml0 (fun z => absurd (tw_c_eq h0 z) (by rw [tw_N_5_0]; omega)))
  · exact tw_0 hj (tw_ml0 (fun z => absurd (tw_c_eq h0 z) (by rw [tw_N_6_0]; omega)))
  · exact tw_0 hj (tw_ml0 (fun z => absurd (tw_c_eq h0 z) (by rw [tw_N_7_0]; omega)))
  · exact tw_0 hj (tw_ml0 (fun z => absurd (tw_c_eq h0 z) (by rw [tw_N_9_0]; omega)))
  · exact tw_0 hj (tw_ml0 (fun z => absurd (tw_c_eq h0 z) (by rw [tw_N_10_0]; omega)))
  · exact tw_0 hj (tw_ml0 (fun z => absurd (tw_c_eq h0 z) (by rw [tw_N_11_0]; omega)))
  · exact tw_0 hj (tw_ml0 (fun z => absurd (tw_c_eq h0 z) (by rw [tw_N_12_0]; omega)))
theorem tw_dom_9 {tx : Nat → Nat} {L p : Nat} (h0 : tp_c tx L p 99 = true) : tw_dom tx L p 9 := by
  have h1 : 1 ≤ tp_ml tx L p 9 := tw_ge1 (by omega) (by rw [tw_N_9_0]; exact h0)
  intro j hj hv
  have hjs : j = 0 ∨ j = 1 ∨ j = 2 ∨ j = 3 ∨ j = 4 ∨ j = 5 ∨ j = 6 ∨ j = 7 ∨ j = 8 ∨ j = 10 ∨ j = 11 ∨ j = 12 := by omega
  rcases hjs with rfl | rfl | rfl | rfl | rfl | rfl | rfl | rfl | rfl | rfl | rfl | rfl
  · exact tw_0 hj (tw_ml0 (fun z => absurd (tw_c_eq h0 z) (by rw [tw_N_0_0]; omega)))
  · exact tw_0 hj (tw_ml0 (fun z => absurd (tw_c_eq h0 z) (by rw [tw_N_1_0]; omega)))
  · exact tw_0 hj (tw_ml0 (fun z => absurd (tw_c_eq h0 z) (by rw [tw_N_2_0]; omega)))
  · exact tw_0 hj (tw_ml0 (fun z => absurd (tw_c_eq h0 z) (by rw [tw_N_3_0]; omega)))
  · exact tw_0 hj (tw_ml0 (fun z => absurd (tw_c_eq h0 z) (by rw [tw_N_4_0]; omega)))
  · exact tw_0 hj (tw_ml0 (fun z => absurd (tw_c_eq h0 z) (by rw [tw_N_5_0]; omega)))
  · exact tw_0 hj (tw_ml0 (fun z => absurd (tw_c_eq h0 z) (by rw [tw_N_6_0]; omega)))
  · exact tw_0 hj (tw_ml0 (fun z => absurd (tw_c_eq h0 z) (by rw [tw_N_7_0]; omega)))
  · exact tw_0 hj (tw_ml0 (fun z => absurd (tw_c_eq h0 z) (by rw [tw_N_8_0]; omega)))
  · exact tw_0 hj (tw_ml0 (fun z => absurd (tw_c_eq h0 z) (by rw [tw_N_10_0]; omega)))
  · exact tw_0 hj (tw_ml0 (fun z => absurd (tw_c_eq h0 z) (by rw [tw_N_11_0]; omega)))
  · exact tw_0 hj (tw_ml0 (fun z => absurd (tw_c_eq h0 z) (by rw [tw_N_12_0]; omega)))
theorem tw_dom_10 {tx : Nat → Nat} {L p : Nat} (h0 : tp_c tx L p 110 = true) : tw_dom tx L p 10 := by
  have h1 : 1 ≤ tp_ml tx L p 10 := tw_ge1 (by omega) (by rw [tw_N_10_0]; exact h0)
  intro j hj hv
  have hjs : j = 0 ∨ j = 1 ∨ j = 2 ∨ j = 3 ∨ j = 4 ∨ j = 5 ∨ j = 6 ∨ j = 7 ∨ j = 8 ∨ j = 9 ∨ j = 11 ∨ j = 12 := by omega
  rcases hjs with rfl | rfl | rfl | rfl | rfl | rfl | rfl | rfl | rfl | rfl | rfl | rfl
  · exact tw_0 hj (tw_ml0 (fun z => absurd (tw_c_eq h0 z) (by rw [tw_N_0_0]; omega)))
  · exact tw_0 hj (tw_ml0 (fun z => absurd (tw_c_eq h0 z) (by rw [tw_N_1_0]; omega)))
  · exact tw_0 hj (tw_ml0 (fun z => absurd (tw_c_eq h0 z) (by rw [tw_N_2_0]; omega)))
  · exact tw_0 hj (tw_ml0 (fun z => absurd (tw_c_eq h0 z) (by rw [tw_N_3_0]; omega)))
  · exact tw_0 hj (tw_ml0 (fun z => absurd (tw_c_eq h0 z) (by rw [tw_N_4_0]; omega)))
  · exact tw_0 hj (tw_ml0 (fun z => absurd (tw_c_eq h0 z) (by rw [tw_N_5_0]; omega)))
  · exact tw_0 hj (tw_ml0 (fun z => absurd (tw_c_eq h0 z) (by rw [tw_N_6_0]; omega)))
  · exact tw_0 hj (tw_ml0 (fun z => absurd (tw_c_eq h0 z) (by rw [tw_N_7_0]; omega)))
  · exact tw_0 hj (tw_ml0 (fun z => absurd (tw_c_eq h0 z) (by rw [tw_N_8_0]; omega)))
  · exact tw_0 hj (tw_ml0 (fun z => absurd (tw_c_eq h0 z) (by rw [tw_N_9_0]; omega)))
  · exact tw_0 hj (tw_ml0 (fun z => absurd (tw_c_eq h0 z) (by rw [tw_N_11_0]; omega)))
  · exact tw_0 hj (tw_ml0 (fun z => absurd (tw_c_eq h0 z) (by rw [tw_N_12_0]; omega)))
theorem tw_dom_11 {tx : Nat → Nat} {L p : Nat} (h0 : tp_c tx L p 112 = true) : tw_dom tx L p 11 := by
  have h1 : 1 ≤ tp_ml tx L p 11 := tw_ge1 (by omega) (by rw [tw_N_11_0]; exact h0)
  intro j hj hv
  have hjs : j = 0 ∨ j = 1 ∨ j = 2 ∨ j = 3 ∨ j = 4 ∨ j = 5 ∨ j = 6 ∨ j = 7 ∨ j = 8 ∨ j = 9 ∨ j = 10 ∨ j = 12 := by omega
  rcases hjs with rfl | rfl | rfl | rfl | rfl | rfl | rfl | rfl | rfl | rfl | rfl | rfl
  · exact tw_0 hj (tw_ml0 (fun z => absurd (tw_c_eq h0 z) (by rw [tw_N_0_0]; omega)))
  · exact tw_0 hj (tw_ml0 (fun z => absurd (tw_c_eq h0 z) (by rw [tw_N_1_0]; omega)))
  · exact tw_0 hj (tw_ml0 (fun z => absurd (tw_c_eq h0 z) (by rw [tw_N_2_0]; omega)))
  · exact tw_0 hj (tw_ml0 (fun z => absurd (tw_c_eq h0 z) (by rw [tw_N_3_0]; omega)))
  · exact tw_0 hj (tw_ml0 (fun z => absurd (tw_c_eq h0 z) (by rw [tw_N_4_0]; omega)))
  · exact tw_0 hj (tw_ml0 (fun z => absurd (tw_c_eq h0 z) (by rw [tw_N_5_0]; omega)))
  · exact tw_0 hj (tw_ml0 (fun z => absurd (tw_c_eq h0 z) (by rw [tw_N_6_0]; omega)))
  · exact tw_0 hj (tw_ml0 (fun z => absurd (tw_c_eq h0 z) (by rw [tw_N_7_0]; omega)))
  · exact tw_0 hj (tw_ml0 (fun z => absurd (tw_c_eq h0 z) (by rw [tw_N_8_0]; omega)))
  · exact tw_0 hj (tw_ml0 (fun z => absurd (tw_c_eq h0 z) (by rw [tw_N_9_0]; omega)))
  · exact tw_0 hj (tw_ml0 (fun z => absurd (tw_c_eq h0 z) (by rw [tw_N_10_0]; omega)))
  · exact tw_0 hj (tw_ml0 (fun z => absurd (tw_c_eq h0 z) (by rw [tw_N_12_0]; omega)))
theorem tw_dom_12 {tx : Nat → Nat} {L p : Nat} (hc : tp_c tx L (p + 1) 117 = true) (h0 : tp_c tx L p 98 = true) : tw_dom tx L p 12 := by
  have h1 : 1 ≤ tp_ml tx L p 12 := tw_ge1 (by omega) (by rw [tw_N_12_0]; exact h0)
  intro j hj hv
  have hjs : j = 0 ∨ j = 1 ∨ j = 2 ∨ j = 3 ∨ j = 4 ∨ j = 5 ∨ j = 6 ∨ j = 7 ∨ j = 8 ∨ j = 9 ∨ j = 10 ∨ j = 11 := by omega
  rcases hjs with rfl | rfl | rfl | rfl | rfl | rfl | rfl | rfl | rfl | rfl | rfl | rfl
  · exact tw_0 hj (tw_ml0 (fun z => absurd (tw_c_eq h0 z) (by rw [tw_N_0_0]; omega)))
  · exact tw_0 hj (tw_ml0 (fun z => absurd (tw_c_eq h0 z) (by rw [tw_N_1_0]; omega)))
  · exact tw_0 hj (tw_ml0 (fun z => absurd (tw_c_eq h0 z) (by rw [tw_N_2_0]; omega)))
  · exact tw_0 hj (tw_ml0 (fun z => absurd (tw_c_eq h0 z) (by rw [tw_N_3_0]; omega)))
  · exact tw_0 hj (tw_ml0 (fun z => absurd (tw_c_eq h0 z) (by rw [tw_N_4_0]; omega)))
  · exact tw_1 hj h1 (tw_ml1 hj (by rw [tw_N_5_0]; exact h0) (fun z => absurd (tw_c_eq hc z) (by rw [tw_N_5_1]; omega)))
  · exact tw_0 hj (tw_ml0 (fun z => absurd (tw_c_eq h0 z) (by rw [tw_N_6_0]; omega)))
  · exact tw_0 hj (tw_ml0 (fun z => absurd (tw_c_eq h0 z) (by rw [tw_N_7_0]; omega)))
  · exact tw_0 hj (tw_ml0 (fun z => absurd (tw_c_eq h0 z) (by rw [tw_N_8_0]; omega)))
  · exact tw_0 hj (tw_ml0 (fun z => absurd (tw_c_eq h0 z) (by rw [tw_N_9_0]; omega)))
  · exact tw_0 hj (tw_ml0 (fun z => absurd (tw_c_eq h0 z) (by rw [tw_N_10_0]; omega)))
  · exact tw_0 hj (tw_ml0 (fun z => absurd (tw_c_eq h0 z) (by rw [tw_N_11_0]; omega)))
theorem tm_0 (l : Launch) (G : xG) (d : xd) (tx : Nat → Nat) (L : Nat) (hL : L ≤ 60) (hln : d 175 7 = nI L) (htx : ∀ j, j < L → d 180 j = nI (tx j)) (ht7 : ∀ j, j < L → tx j < 128) (p : Nat) (hpL : p ≤ L) (h13 : d 175 13 = nI p) (h14 : d 175 14 = 0) (k9 : Nat) (hk9 : k9 < 177) (h0 : tp_c tx L p 108 = true) : ∃ d2, x_M G l yX12_parsesCommand wsX12_parsesCommand 5 0 0 [.ref (x_b G + 175), .int (nI k9)] d none d2 ∧ tm_R tx L p k9 d d2 := by
  have hd : d = ms_d d (p, false) := ms_d_is h13 h14
  have hM := c_M_parsesCommand_0 l G d tx L hL hln htx ht7 p hpL k9 hk9  h0
  have hdom : tw_dom tx L p 0 := tw_dom_0  h0
  obtain ⟨e1, e2, e3⟩ := tw_end hdom (by omega)
  rw [tw_n_0] at e1 e2 e3
  have c1 : (p + 1, false) = ms_c tx L p 0 1 := ms_c_1 (by rw [tw_N_0_0]; exact h0)
  have c2 : ms_nd tx L (ms_c tx L p 0 1) 97 = ms_c tx L p 0 2 := by rw [← tw_N_0_1]; exact ms_c_s
  have c3 : ms_nd tx L (ms_c tx L p 0 2) 109 = ms_c tx L p 0 3 := by rw [← tw_N_0_2]; exact ms_c_s
  have c4 : ms_nd tx L (ms_c tx L p 0 3) 112 = ms_c tx L p 0 4 := by rw [← tw_N_0_3]; exact ms_c_s
  have g0 : ms_c tx L p 0 4 = ms_g tx L p 0 0 := ms_g_0 tw_L_0
  have g1 : ms_fs tx L (ms_g tx L p 0 0) 1 = ms_g tx L p 0 1 := ms_g_s tw_m_0_0
  have g2 : ms_fs tx L (ms_g tx L p 0 1) 1 = ms_g tx L p 0 2 := ms_g_s tw_m_0_1
  have eS : ms_fs tx L (ms_fs tx L (ms_nd tx L (ms_nd tx L (ms_nd tx L (p + 1, false) 97) 109) 112) 1) 1 = ms_g tx L p 0 2 := by rw [c1, c2, c3, c4, g0, g1, g2]
  have v1 : (nI (ms_fv tx L (ms_nd tx L (ms_nd tx L (ms_nd tx L (p + 1, false) 97) 109) 112) 1)) = nI (ms_fv tx L (ms_g tx L p 0 0) 1) := by rw [c1, c2, c3, c4, g0]
  have v2 : (nI (ms_fv tx L (ms_fs tx L (ms_nd tx L (ms_nd tx L (ms_nd tx L (p + 1, false) 97) 109) 112) 1) 1)) = nI (ms_fv tx L (ms_g tx L p 0 1) 1) := by rw [c1, c2, c3, c4, g0, g1]
  refine ⟨_, by rw [← hd] at hM; exact hM, ?_, fun hc2 => ?_, fun hc2 => ?_, fun hc2 => ?_, fun j h1 h2 => ?_, fun j h1 h2 => ?_, fun j hj => ?_⟩
  · rw [x_p_ne (by omega), x_p_ne (by omega), x_p_ne (by omega), ms_d_13, eS, e1]
  · rw [x_p_ne (by omega), x_p_ne (by omega), x_p_ne (by omega), ms_d_14, eS, (e2 hc2).1]; rfl
  · rw [x_p_ne (by omega), x_p_ne (by omega), x_p_ne (by omega), ms_d_14, eS, e3 hc2]; rfl
  · obtain ⟨-, hvb, hml, haf⟩ := e2 hc2
    unfold tp_v1 tp_v2
    rw [hvb, tw_n_0]
    refine ⟨?_, fun y1 => ?_, fun y2 => ?_⟩
    · rw [x_p_row (by omega), x_p_row (by omega), x_p_at]; rfl
    · rw [x_p_row (by omega), x_p_at, v1, ms_g_v tw_m_0_0 hml haf (by omega), if_pos y1]; rfl
    · rw [x_p_at, v2, ms_g_v tw_m_0_1 hml haf (by omega), if_pos y2]
  · rw [x_p_ne h2, x_p_ne h2, x_p_ne h2, ms_d_out h1]
  · rw [x_p_ne (by omega), x_p_ne (by omega), x_p_ne (by omega), ms_d_row h1 h2]
  · rw [x_p_row (by omega), x_p_row (by omega), x_p_row (by omega), ms_d_out (by omega)]
theorem tm_1 (l : Launch) (G : xG) (d : xd) (tx : Nat → Nat) (L : Nat) (hL : L ≤ 60) (hln : d 175 7 = nI L) (htx : ∀ j, j < L → d 180 j = nI (tx j)) (ht7 : ∀ j, j < L → tx j < 128) (p : Nat) (hpL : p ≤ L) (h13 : d 175 13 = nI p) (h14 : d 175 14 = 0) (k9 : Nat) (hk9 : k9 < 177) (h0 : tp_c tx L p 114 = true) : ∃ d2, x_M G l yX12_parsesCommand wsX12_parsesCommand 5 0 0 [.ref (x_b G + 175), .int (nI k9)] d none d2 ∧ tm_R tx L p k9 d d2 := by
  have hd : d = ms_d d (p, false) := ms_d_is h13 h14
  have hM := c_M_parsesCommand_1 l G d tx L hL hln htx ht7 p hpL k9 hk9  h0
  have hdom : tw_dom tx L p 1 := tw_dom_1  h0
  obtain ⟨e1, e2, e3⟩ := tw_end hdom (by omega)
  rw [tw_n_1] at e1 e2 e3
  have c1 : (p + 1, false) = ms_c tx L p 1 1 := ms_c_1 (by rw [tw_N_1_0]; exact h0)
  have c2 : ms_nd tx L (ms_c tx L p 1 1) 101 = ms_c tx L p 1 2 := by rw [← tw_N_1_1]; exact ms_c_s
  have c3 : ms_nd tx L (ms_c tx L p 1 2) 109 = ms_c tx L p 1 3 := by rw [← tw_N_1_2]; exact ms_c_s
  have c4 : ms_nd tx L (ms_c tx L p 1 3) 111 = ms_c tx L p 1 4 := by rw [← tw_N_1_3]; exact ms_c_s
  have c5 : ms_nd tx L (ms_c tx L p 1 4) 118 = ms_c tx L p 1 5 := by rw [← tw_N_1_4]; exact ms_c_s
  have c6 : ms_nd tx L (ms_c tx L p 1 5) 101 = ms_c tx L p 1 6 := by rw [← tw_N_1_5]; exact ms_c_s
  have g0 : ms_c tx L p 1 6 = ms_g tx L p 1 0 := ms_g_0 tw_L_1
  have g1 : ms_fs tx L (ms_g tx L p 1 0) 1 = ms_g tx L p 1 1 := ms_g_s tw_m_1_0
  have eS : ms_fs tx L (ms_nd tx L (ms_nd tx L (ms_nd tx L (ms_nd tx L (ms_nd tx L (p + 1, false) 101) 109) 111) 118) 101) 1 = ms_g tx L p 1 1 := by rw [c1, c2, c3, c4, c5, c6, g0, g1]
  have v1 : (nI (ms_fv tx L (ms_nd tx L (ms_nd tx L (ms_nd tx L (ms_nd tx L (ms_nd tx L (p + 1, false) 101) 109) 111) 118) 101) 1)) = nI (ms_fv tx L (ms_g tx L p 1 0) 1) := by rw [c1, c2, c3, c4, c5, c6, g0]
  refine ⟨_, by rw [← hd] at hM; exact hM, ?_, fun hc2 => ?_, fun hc2 => ?_, fun hc2 => ?_, fun j h1 h2 => ?_, fun j h1 h2 => ?_, fun j hj => ?_⟩
  · rw [x_p_ne (by omega), x_p_ne (by omega), ms_d_13, eS, e1]
  · rw [x_p_ne (by omega), x_p_ne (by omega), ms_d_14, eS, (e2 hc2).1]; rfl
  · rw [x_p_ne (by omega), x_p_ne (by omega), ms_d_14, eS, e3 hc2]; rfl
  · obtain ⟨-, hvb, hml, haf⟩ := e2 hc2
    unfold tp_v1 tp_v2
    rw [hvb, tw_n_1]
    refine ⟨?_, fun y1 => ?_, fun y2 => ?_⟩
    · rw [x_p_row (by omega), x_p_at]; rfl
    · rw [x_p_at, v1, ms_g_v tw_m_1_0 hml haf (by omega), if_pos y1]; rfl
    · exact absurd y2 (by omega)
  · rw [x_p_ne h2, x_p_ne h2, ms_d_out h1]
  · rw [x_p_ne (by omega), x_p_ne (by omega), ms_d_row h1 h2]
  · rw [x_p_row (by omega), x_p_row (by omega), ms_d_out (by omega)]
theorem tm_2 (l : Launch) (G : xG) (d : xd) (tx : Nat → Nat) (L : Nat) (hL : L ≤ 60) (hln : d 175 7 = nI L) (htx : ∀ j, j < L → d 180 j = nI (tx j)) (ht7 : ∀ j, j < L → tx j < 128) (p : Nat) (hpL : p ≤ L) (h13 : d 175 13 = nI p) (h14 : d 175 14 = 0) (k9 : Nat) (hk9 : k9 < 177) (hc : tp_c tx L (p + 1) 105 = true) (h0 : tp_c tx L p 111 = true) : ∃ d2, x_M G l yX12_parsesCommand wsX12_parsesCommand 5 0 0 [.ref (x_b G + 175), .int (nI k9)] d none d2 ∧ tm_R tx L p k9 d d2 := by
  have hd : d = ms_d d (p, false) := ms_d_is h13 h14
  have hM := c_M_parsesCommand_2 l G d tx L hL hln htx ht7 p hpL k9 hk9 hc h0
  have hdom : tw_dom tx L p 2 := tw_dom_2 hc h0
  obtain ⟨e1, e2, e3⟩ := tw_end hdom (by omega)
  rw [tw_n_2] at e1 e2 e3
  have c1 : (p + 1, false) = ms_c tx L p 2 1 := ms_c_1 (by rw [tw_N_2_0]; exact h0)
  have c2 : ms_nd tx L (ms_c tx L p 2 1) 105 = ms_c tx L p 2 2 := by rw [← tw_N_2_1]; exact ms_c_s
  have c3 : ms_nd tx L (ms_c tx L p 2 2) 108 = ms_c tx L p 2 3 := by rw [← tw_N_2_2]; exact ms_c_s
  have g0 : ms_c tx L p 2 3 = ms_g tx L p 2 0 := ms_g_0 tw_L_2
  have g1 : ms_fs tx L (ms_g tx L p 2 0) 3 = ms_g tx L p 2 1 := ms_g_s tw_m_2_0
  have eS : ms_fs tx L (ms_nd tx L (ms_nd tx L (p + 1, false) 105) 108) 3 = ms_g tx L p 2 1 := by rw [c1, c2, c3, g0, g1]
  have v1 : (nI (ms_fv tx L (ms_nd tx L (ms_nd tx L ((p + 1, false)) 105) 108) 3)) = nI (ms_fv tx L (ms_g tx L p 2 0) 3) := by rw [c1, c2, c3, g0]
  refine ⟨_, by rw [← hd] at hM; exact hM, ?_, fun hc2 => ?_, fun hc2 => ?_, fun hc2 => ?_, fun j h1 h2 => ?_, fun j h1 h2 => ?_, fun j hj => ?_⟩
  · rw [x_p_ne (by omega), x_p_ne (by omega), x_p_ne (by omega), ms_d_13, eS, e1]
  · rw [x_p_ne (by omega), x_p_ne (by omega), x_p_ne (by omega), ms_d_14, eS, (e2 hc2).1]; rfl
  · rw [x_p_ne (by omega), x_p_ne (by omega), x_p_ne (by omega), ms_d_14, eS, e3 hc2]; rfl
  · obtain ⟨-, hvb, hml, haf⟩ := e2 hc2
    unfold tp_v1 tp_v2
    rw [hvb, tw_n_2]
    refine ⟨?_, fun y1 => ?_, fun y2 => ?_⟩
    · rw [x_p_row (by omega), x_p_at]; rfl
    · rw [x_p_at, v1, ms_g_v tw_m_2_0 hml haf (by omega), if_pos y1]; rfl
    · exact absurd y2 (by omega)
  · rw [x_p_ne h2, x_p_ne h2, x_p_ne h2, ms_d_out h1]
  · rw [x_p_ne (by omega), x_p_ne (by omega), x_p_ne (by omega), ms_d_row h1 h2]
  · rw [x_p_row (by omega), x_p_row (by omega), x_p_row (by omega), ms_d_out (by omega)]
theorem tm_3 (l : Launch) (G : xG) (d : xd) (tx : Nat → Nat) (L : Nat) (hL : L ≤ 60) (hln : d 175 7 = nI L) (htx : ∀ j, j < L → d 180 j = nI (tx j)) (ht7 : ∀ j, j < L → tx j < 128) (p : Nat) (hpL : p ≤ L) (h13 : d 175 13 = nI p) (h14 : d 175 14 = 0) (k9 : Nat) (hk9 : k9 < 177) (h0 : tp_c tx L p 119 = true) : ∃ d2, x_M G l yX12_parsesCommand wsX12_parsesCommand 5 0 0 [.ref (x_b G + 175), .int (nI k9)] d none d2 ∧ tm_R tx L p k9 d d2 := by
  have hd : d = ms_d d (p, false) := ms_d_is h13 h14
  have hM := c_M_parsesCommand_3 l G d tx L hL hln htx ht7 p hpL k9 hk9  h0
  have hdom : tw_dom tx L p 3 := tw_dom_3  h0
  obtain ⟨e1, e2, e3⟩ := tw_end hdom (by omega)
  rw [tw_n_3] at e1 e2 e3
  have c1 : (p + 1, false) = ms_c tx L p 3 1 := ms_c_1 (by rw [tw_N_3_0]; exact h0)
  have c2 : ms_nd tx L (ms_c tx L p 3 1) 105 = ms_c tx L p 3 2 := by rw [← tw_N_3_1]; exact ms_c_s
  have c3 : ms_nd tx L (ms_c tx L p 3 2) 99 = ms_c tx L p 3 3 := by rw [← tw_N_3_2]; exact ms_c_s
  have c4 : ms_nd tx L (ms_c tx L p 3 3) 107 = ms_c tx L p 3 4 := by rw [← tw_N_3_3]; exact ms_c_s
  have g0 : ms_c tx L p 3 4 = ms_g tx L p 3 0 := ms_g_0 tw_L_3
  have g1 : ms_fs tx L (ms_g tx L p 3 0) 3 = ms_g tx L p 3 1 := ms_g_s tw_m_3_0
  have eS : ms_fs tx L (ms_nd tx L (ms_nd tx L (ms_nd tx L (p + 1, false) 105) 99) 107) 3 = ms_g tx L p 3 1 := by rw [c1, c2, c3, c4, g0, g1]
  have v1 : (nI (ms_fv tx L (ms_nd tx L (ms_nd tx L (ms_nd tx L (p + 1, false) 105) 99) 107) 3)) = nI (ms_fv tx L (ms_g tx L p 3 0) 3) := by rw [c1, c2, c3, c4, g0]
  refine ⟨_, by rw [← hd] at hM; exact hM, ?_, fun hc2 => ?_, fun hc2 => ?_, fun hc2 => ?_, fun j h1 h2 => ?_, fun j h1 h2 => ?_, fun j hj => ?_⟩
  · rw [x_p_ne (by omega), x_p_ne (by omega), ms_d_13, eS, e1]
  · rw [x_p_ne (by omega), x_p_ne (by omega), ms_d_14, eS, (e2 hc2).1]; rfl
  · rw [x_p_ne (by omega), x_p_ne (by omega), ms_d_14, eS, e3 hc2]; rfl
  · obtain ⟨-, hvb, hml, haf⟩ := e2 hc2
    unfold tp_v1 tp_v2
    rw [hvb, tw_n_3]
    refine ⟨?_, fun y1 => ?_, fun y2 => ?_⟩
    · rw [x_p_row (by omega), x_p_at]; rfl
    · rw [x_p_at, v1, ms_g_v tw_m_3_0 hml haf (by omega), if_pos y1]; rfl
    · exact absurd y2 (by omega)
  · rw [x_p_ne h2, x_p_ne h2, ms_d_out h1]
  · rw [x_p_ne (by omega), x_p_ne (by omega), ms_d_row h1 h2]
  · rw [x_p_row (by omega), x_p_row (by omega), ms_d_out (by omega)]
theorem tm_4 (l : Launch) (G : xG) (d : xd) (tx : Nat → Nat) (L : Nat) (hL : L ≤ 60) (hln : d 175 7 = nI L) (htx : ∀ j, j < L → d 180 j = nI (tx j)) (ht7 : ∀ j, j < L → tx j < 128) (p : Nat) (hpL : p ≤ L) (h13 : d 175 13 = nI p) (h14 : d 175 14 = 0) (k9 : Nat) (hk9 : k9 < 177) (h0 : tp_c tx L p 103 = true) : ∃ d2, x_M G l yX12_parsesCommand wsX12_parsesCommand 5 0 0 [.ref (x_b G + 175), .int (nI k9)] d none d2 ∧ tm_R tx L p k9 d d2 := by
  have hd : d = ms_d d (p, false) := ms_d_is h13 h14
  have hM := c_M_parsesCommand_4 l G d tx L hL hln htx ht7 p hpL k9 hk9  h0
  have hdom : tw_dom tx L p 4 := tw_dom_4  h0
  obtain ⟨e1, e2, e3⟩ := tw_end hdom (by omega)
  rw [tw_n_4] at e1 e2 e3
  have c1 : (p + 1, false) = ms_c tx L p 4 1 := ms_c_1 (by rw [tw_N_4_0]; exact h0)
  have c2 : ms_nd tx L (ms_c tx L p 4 1) 105 = ms_c tx L p 4 2 := by rw [← tw_N_4_1]; exact ms_c_s
  have c3 : ms_nd tx L (ms_c tx L p 4 2) 118 = ms_c tx L p 4 3 := by rw [← tw_N_4_2]; exact ms_c_s
  have c4 : ms_nd tx L (ms_c tx L p 4 3) 101 = ms_c tx L p 4 4 := by rw [← tw_N_4_3]; exact ms_c_s
  have g0 : ms_c tx L p 4 4 = ms_g tx L p 4 0 := ms_g_0 tw_L_4
  have g1 : ms_fs tx L (ms_g tx L p 4 0) 1 = ms_g tx L p 4 1 := ms_g_s tw_m_4_0
  have g2 : ms_fs tx L (ms_g tx L p 4 1) 1 = ms_g tx L p 4 2 := ms_g_s tw_m_4_1
  have eS : ms_fs tx L (ms_fs tx L (ms_nd tx L (ms_nd tx L (ms_nd tx L (p + 1, false) 105) 118) 101) 1) 1 = ms_g tx L p 4 2 := by rw [c1, c2, c3, c4, g0, g1, g2]
  have v1 : (nI (ms_fv tx L (ms_nd tx L (ms_nd tx L (ms_nd tx L (p + 1, false) 105) 118) 101) 1)) = nI (ms_fv tx L (ms_g tx L p 4 0) 1) := by rw [c1, c2, c3, c4, g0]
  have v2 : (nI (ms_fv tx L (ms_fs tx L (ms_nd tx L (ms_nd tx L (ms_nd tx L (p + 1, false) 105) 118) 101) 1) 1)) = nI (ms_fv tx L (ms_g tx L p 4 1) 1) := by rw [c1, c2, c3, c4, g0, g1]
  refine ⟨_, by rw [← hd] at hM; exact hM, ?_, fun hc2 => ?_, fun hc2 => ?_, fun hc2 => ?_, fun j h1 h2 => ?_, fun j h1 h2 => ?_, fun j hj => ?_⟩
  · rw [x_p_ne (by omega), x_p_ne (by omega), x_p_ne (by omega), ms_d_13, eS, e1]
  · rw [x_p_ne (by omega), x_p_ne (by omega), x_p_ne (by omega), ms_d_14, eS, (e2 hc2).1]; rfl
  · rw [x_p_ne (by omega), x_p_ne (by omega), x_p_ne (by omega), ms_d_14, eS, e3 hc2]; rfl
  · obtain ⟨-, hvb, hml, haf⟩ := e2 hc2
    unfold tp_v1 tp_v2
    rw [hvb, tw_n_4]
    refine ⟨?_, fun y1 => ?_, fun y2 => ?_⟩
    · rw [x_p_row (by omega), x_p_row (by omega), x_p_at]; rfl
    · rw [x_p_row (by omega), x_p_at, v1, ms_g_v tw_m_4_0 hml haf (by omega), if_pos y1]; rfl
    · rw [x_p_at, v2, ms_g_v tw_m_4_1 hml haf (by omega), if_pos y2]
  · rw [x_p_ne h2, x_p_ne h2, x_p_ne h2, ms_d_out h1]
  · rw [x_p_ne (by omega), x_p_ne (by omega), x_p_ne (by omega), ms_d_row h1 h2]
  · rw [x_p_row (by omega), x_p_row (by omega), x_p_row (by omega), ms_d_out (by omega)]
theorem tm_5 (l : Launch) (G : xG) (d : xd) (tx : Nat → Nat) (L : Nat) (hL : L ≤ 60) (hln : d 175 7 = nI L) (htx : ∀ j, j < L → d 180 j = nI (tx j)) (ht7 : ∀ j, j < L → tx j < 128) (p : Nat) (hpL : p ≤ L) (h13 : d 175 13 = nI p) (h14 : d 175 14 = 0) (k9 : Nat) (hk9 : k9 < 177) (hn : ¬ tp_c tx L (p + 1) 117 = true) (h0 : tp_c tx L p 98 = true) : ∃ d2, x_M G l yX12_parsesCommand wsX12_parsesCommand 5 0 0 [.ref (x_b G + 175), .int (nI k9)] d none d2 ∧ tm_R tx L p k9 d d2 := by
  have hd : d = ms_d d (p, false) := ms_d_is h13 h14
  have hM := c_M_parsesCommand_5 l G d tx L hL hln htx ht7 p hpL k9 hk9 hn h0
  have hdom : tw_dom tx L p 5 := tw_dom_5 hn h0
  obtain ⟨e1, e2, e3⟩ := tw_end hdom (by omega)
  rw [tw_n_5] at e1 e2 e3
  have c1 : (p + 1, false) = ms_c tx L p 5 1 := ms_c_1 (by rw [tw_N_5_0]; exact h0)
  have c2 : ms_nd tx L (ms_c tx L p 5 1) 114 = ms_c tx L p 5 2 := by rw [← tw_N_5_1]; exact ms_c_s
  have c3 : ms_nd tx L (ms_c tx L p 5 2) 105 = ms_c tx L p 5 3 := by rw [← tw_N_5_2]; exact ms_c_s
  have c4 : ms_nd tx L (ms_c tx L p 5 3) 103 = ms_c tx L p 5 4 := by rw [← tw_N_5_3]; exact ms_c_s
  have c5 : ms_nd tx L (ms_c tx L p 5 4) 104 = ms_c tx L p 5 5 := by rw [← tw_N_5_4]; exact ms_c_s
  have c6 : ms_nd tx L (ms_c tx L p 5 5) 116 = ms_c tx L p 5 6 := by rw [← tw_N_5_5]; exact ms_c_s
  have g0 : ms_c tx L p 5 6 = ms_g tx L p 5 0 := ms_g_0 tw_L_5
  have g1 : ms_fs tx L (ms_g tx L p 5 0) 1 = ms_g tx L p 5 1 := ms_g_s tw_m_5_0
  have g2 : ms_fs tx L (ms_g tx L p 5 1) 1 = ms_g tx L p 5 2 := ms_g_s tw_m_5_1
  have eS : ms_fs tx L (ms_fs tx L (ms_nd tx L (ms_nd tx L (ms_nd tx L (ms_nd tx L (ms_nd tx L (p + 1, false) 114) 105) 103) 104) 116) 1) 1 = ms_g tx L p 5 2 := by rw [c1, c2, c3, c4, c5, c6, g0, g1, g2]
  have v1 : (nI (ms_fv tx L (ms_nd tx L (ms_nd tx L (ms_nd tx L (ms_nd tx L (ms_nd tx L ((p + 1, false)) 114) 105) 103) 104) 116) 1)) = nI (ms_fv tx L (ms_g tx L p 5 0) 1) := by rw [c1, c2, c3, c4, c5, c6, g0]
  have v2 : (nI (ms_fv tx L (ms_fs tx L (ms_nd tx L (ms_nd tx L (ms_nd tx L (ms_nd tx L (ms_nd tx L ((p + 1, false)) 114) 105) 103) 104) 116) 1) 1)) = nI (ms_fv tx L (ms_g tx L p 5 1) 1) := by rw [c1, c2, c3, c4, c5, c6, g0, g1]
  refine ⟨_, by rw [← hd] at hM; exact hM, ?_, fun hc2 => ?_, fun hc2 => ?_, fun hc2 => ?_, fun j h1 h2 => ?_, fun j h1 h2 => ?_, fun j hj => ?_⟩
  · rw [x_p_ne (by omega), x_p_ne (by omega), x_p_ne (by omega), x_p_ne (by omega), ms_d_13, eS, e1]
  · rw [x_p_ne (by omega), x_p_ne (by omega), x_p_ne (by omega), x_p_ne (by omega), ms_d_14, eS, (e2 hc2).1]; rfl
  · rw [x_p_ne (by omega), x_p_ne (by omega), x_p_ne (by omega), x_p_ne (by omega), ms_d_14, eS, e3 hc2]; rfl
  · obtain ⟨-, hvb, hml, haf⟩ := e2 hc2
    unfold tp_v1 tp_v2
    rw [hvb, tw_n_5]
    refine ⟨?_, fun y1 => ?_, fun y2 => ?_⟩
    · rw [x_p_row (by omega), x_p_row (by omega), x_p_at]; rfl
    · rw [x_p_row (by omega), x_p_at, v1, ms_g_v tw_m_5_0 hml haf (by omega), if_pos y1]; rfl
    · rw [x_p_at, v2, ms_g_v tw_m_5_1 hml haf (by omega), if_pos y2]
  · rw [x_p_ne h2, x_p_ne h2, x_p_ne h2, x_p_ne h2, ms_d_out h1]
  · rw [x_p_ne (by omega), x_p_ne (by omega), x_p_ne (by omega), x_p_ne (by omega), ms_d_row h1 h2]
  · rw [x_p_row (by omega), x_p_row (by omega), x_p_row (by omega), x_p_row (by omega), ms_d_out (by omega)]
theorem tm_6 (l : Launch) (G : xG) (d : xd) (tx : Nat → Nat) (L : Nat) (hL : L ≤ 60) (hln : d 175 7 = nI L) (htx : ∀ j, j < L → d 180 j = nI (tx j)) (ht7 : ∀ j, j < L → tx j < 128) (p : Nat) (hpL : p ≤ L) (h13 : d 175 13 = nI p) (h14 : d 175 14 = 0) (k9 : Nat) (hk9 : k9 < 177) (hn : ¬ tp_c tx L (p + 1) 105 = true) (hn2 : ¬ tp_c tx L (p + 1) 102 = true) (h0 : tp_c tx L p 111 = true) : ∃ d2, x_M G l yX12_parsesCommand wsX12_parsesCommand 5 0 0 [.ref (x_b G + 175), .int (nI k9)] d none d2 ∧ tm_R tx L p k9 d d2 := by
  have hd : d = ms_d d (p, false) := ms_d_is h13 h14
  have hM := c_M_parsesCommand_6 l G d tx L hL hln htx ht7 p hpL k9 hk9 hn hn2 h0
  have hdom : tw_dom tx L p 6 := tw_dom_6 hn hn2 h0
  obtain ⟨e1, e2, e3⟩ := tw_end hdom (by omega)
  rw [tw_n_6] at e1 e2 e3
  have c1 : (p + 1, false) = ms_c tx L p 6 1 := ms_c_1 (by rw [tw_N_6_0]; exact h0)
  have c2 : ms_nd tx L (ms_c tx L p 6 1) 110 = ms_c tx L p 6 2 := by rw [← tw_N_6_1]; exact ms_c_s
  have g0 : ms_c tx L p 6 2 = ms_g tx L p 6 0 := ms_g_0 tw_L_6
  have g1 : ms_fs tx L (ms_g tx L p 6 0) 1 = ms_g tx L p 6 1 := ms_g_s tw_m_6_0
  have eS : ms_fs tx L (ms_nd tx L (p + 1, false) 110) 1 = ms_g tx L p 6 1 := by rw [c1, c2, g0, g1]
  have v1 : (nI (ms_fv tx L (ms_nd tx L ((p + 1, false)) 110) 1)) = nI (ms_fv tx L (ms_g tx L p 6 0) 1) := by rw [c1, c2, g0]
  refine ⟨_, by rw [← hd] at hM; exact hM, ?_, fun hc2 => ?_, fun hc2 => ?_, fun hc2 => ?_, fun j h1 h2 => ?_, fun j h1 h2 => ?_, fun j hj => ?_⟩
  · rw [x_p_ne (by omega), x_p_ne (by omega), x_p_ne (by omega), ms_d_13, eS, e1]
  · rw [x_p_ne (by omega), x_p_ne (by omega), x_p_ne (by omega), ms_d_14, eS, (e2 hc2).1]; rfl
  · rw [x_p_ne (by omega), x_p_ne (by omega), x_p_ne (by omega), ms_d_14, eS, e3 hc2]; rfl
  · obtain ⟨-, hvb, hml, haf⟩ := e2 hc2
    unfold tp_v1 tp_v2
    rw [hvb, tw_n_6]
    refine ⟨?_, fun y1 => ?_, fun y2 => ?_⟩
    · rw [x_p_row (by omega), x_p_at]; rfl
    · rw [x_p_at, v1, ms_g_v tw_m_6_0 hml haf (by omega), if_pos y1]; rfl
    · exact absurd y2 (by omega)
  · rw [x_p_ne h2, x_p_ne h2, x_p_ne h2, ms_d_out h1]
  · rw [x_p_ne (by omega), x_p_ne (by omega), x_p_ne (by omega), ms_d_row h1 h2]
  · rw [x_p_row (by omega), x_p_row (by omega), x_p_row (by omega), ms_d_out (by omega)]
theorem tm_7 (l : Launch) (G : xG) (d : xd) (tx : Nat → Nat) (L : Nat) (hL : L ≤ 60) (hln : d 175 7 = nI L) (htx : ∀ j, j < L → d 180 j = nI (tx j)) (ht7 : ∀ j, j < L → tx j < 128) (p : Nat) (hpL : p ≤ L) (h13 : d 175 13 = nI p) (h14 : d 175 14 = 0) (k9 : Nat) (hk9 : k9 < 177) (hn : ¬ tp_c tx L (p + 1) 105 = true) (hc : tp_c tx L (p + 1) 102 = true) (h0 : tp_c tx L p 111 = true) : ∃ d2, x_M G l yX12_parsesCommand wsX12_parsesCommand 5 0 0 [.ref (x_b G + 175), .int (nI k9)] d none d2 ∧ tm_R tx L p k9 d d2 := by
  have hd : d = ms_d d (p, false) := ms_d_is h13 h14
  have hM := c_M_parsesCommand_7 l G d tx L hL hln htx ht7 p hpL k9 hk9 hn hc h0
  have hdom : tw_dom tx L p 7 := tw_dom_7 hn hc h0
  obtain ⟨e1, e2, e3⟩ := tw_end hdom (by omega)
  rw [tw_n_7] at e1 e2 e3
  have c1 : (p + 1, false) = ms_c tx L p 7 1 := ms_c_1 (by rw [tw_N_7_0]; exact h0)
  have c2 : ms_nd tx L (ms_c tx L p 7 1) 102 = ms_c tx L p 7 2 := by rw [← tw_N_7_1]; exact ms_c_s
  have c3 : ms_nd tx L (ms_c tx L p 7 2) 102 = ms_c tx L p 7 3 := by rw [← tw_N_7_2]; exact ms_c_s
  have g0 : ms_c tx L p 7 3 = ms_g tx L p 7 0 := ms_g_0 tw_L_7
  have g1 : ms_fs tx L (ms_g tx L p 7 0) 1 = ms_g tx L p 7 1 := ms_g_s tw_m_7_0
  have eS : ms_fs tx L (ms_nd tx L (ms_nd tx L (p + 1, false) 102) 102) 1 = ms_g tx L p 7 1 := by rw [c1, c2, c3, g0, g1]
  have v1 : (nI (ms_fv tx L (ms_nd tx L (ms_nd tx L ((p + 1, false)) 102) 102) 1)) = nI (ms_fv tx L (ms_g tx L p 7 0) 1) := by rw [c1, c2, c3, g0]
  refine ⟨_, by rw [← hd] at hM; exact hM, ?_, fun hc2 => ?_, fun hc2 => ?_, fun hc2 => ?_, fun j h1 h2 => ?_, fun j h1 h2 => ?_, fun j hj => ?_⟩
  · rw [x_p_ne (by omega), x_p_ne (by omega), x_p_ne (by omega), ms_d_13, eS, e1]
  · rw [x_p_ne (by omega), x_p_ne (by omega), x_p_ne (by omega), ms_d_14, eS, (e2 hc2).1]; rfl
  · rw [x_p_ne (by omega), x_p_ne (by omega), x_p_ne (by omega), ms_d_14, eS, e3 hc2]; rfl
  · obtain ⟨-, hvb, hml, haf⟩ := e2 hc2
    unfold tp_v1 tp_v2
    rw [hvb, tw_n_7]
    refine ⟨?_, fun y1 => ?_, fun y2 => ?_⟩
    · rw [x_p_row (by omega), x_p_at]; rfl
    · rw [x_p_at, v1, ms_g_v tw_m_7_0 hml haf (by omega), if_pos y1]; rfl
    · exact absurd y2 (by omega)
  · rw [x_p_ne h2, x_p_ne h2, x_p_ne h2, ms_d_out h1]
  · rw [x_p_ne (by omega), x_p_ne (by omega), x_p_ne (by omega), ms_d_row h1 h2]
  · rw [x_p_row (by omega), x_p_row (by omega), x_p_row (by omega), ms_d_out (by omega)]
theorem tm_8 (l : Launch) (G : xG) (d : xd) (tx : Nat → Nat) (L : Nat) (hL : L ≤ 60) (hln : d 175 7 = nI L) (htx : ∀ j, j < L → d 180 j = nI (tx j)) (ht7 : ∀ j, j < L → tx j < 128) (p : Nat) (hpL : p ≤ L) (h13 : d 175 13 = nI p) (h14 : d 175 14 = 0) (k9 : Nat) (hk9 : k9 < 177) (h0 : tp_c tx L p 109 = true) : ∃ d2, x_M G l yX12_parsesCommand wsX12_parsesCommand 5 0 0 [.ref (x_b G + 175), .int (nI k9)] d none d2 ∧ tm_R tx L p k9 d d2 := by
  have hd : d = ms_d d (p, false) := ms_d_is h13 h14
  have hM := c_M_parsesCommand_8 l G d tx L hL hln htx ht7 p hpL k9 hk9  h0
  have hdom : tw_dom tx L p 8 := tw_dom_8  h0
  obtain ⟨e1, e2, e3⟩ := tw_end hdom (by omega)
  rw [tw_n_8] at e1 e2 e3
  have c1 : (p + 1, false) = ms_c tx L p 8 1 := ms_c_1 (by rw [tw_N_8_0]; exact h0)
  have c2 : ms_nd tx L (ms_c tx L p 8 1) 111 = ms_c tx L p 8 2 := by rw [← tw_N_8_1]; exact ms_c_s
  have c3 : ms_nd tx L (ms_c tx L p 8 2) 116 = ms_c tx L p 8 3 := by rw [← tw_N_8_2]; exact ms_c_s
  have c4 : ms_nd tx L (ms_c tx L p 8 3) 104 = ms_c tx L p 8 4 := by rw [← tw_N_8_3]; exact ms_c_s
  have g0 : ms_c tx L p 8 4 = ms_g tx L p 8 0 := ms_g_0 tw_L_8
  have g1 : ms_fs tx L (ms_g tx L p 8 0) 1 = ms_g tx L p 8 1 := ms_g_s tw_m_8_0
  have eS : ms_fs tx L (ms_nd tx L (ms_nd tx L (ms_nd tx L (p + 1, false) 111) 116) 104) 1 = ms_g tx L p 8 1 := by rw [c1, c2, c3, c4, g0, g1]
  have v1 : (nI (ms_fv tx L (ms_nd tx L (ms_nd tx L (ms_nd tx L (p + 1, false) 111) 116) 104) 1)) = nI (ms_fv tx L (ms_g tx L p 8 0) 1) := by rw [c1, c2, c3, c4, g0]
  refine ⟨_, by rw [← hd] at hM; exact hM, ?_, fun hc2 => ?_, fun hc2 => ?_, fun hc2 => ?_, fun j h1 h2 => ?_, fun j h1 h2 => ?_, fun j hj => ?_⟩
  · rw [x_p_ne (by omega), x_p_ne (by omega), ms_d_13, eS, e1]
  · rw [x_p_ne (by omega), x_p_ne (by omega), ms_d_14, eS, (e2 hc2).1]; rfl
  · rw [x_p_ne (by omega), x_p_ne (by omega), ms_d_14, eS, e3 hc2]; rfl
  · obtain ⟨-, hvb, hml, haf⟩ := e2 hc2
    unfold tp_v1 tp_v2
    rw [hvb, tw_n_8]
    refine ⟨?_, fun y1 => ?_, fun y2 => ?_⟩
    · rw [x_p_row (by omega), x_p_at]; rfl
    · rw [x_p_at, v1, ms_g_v tw_m_8_0 hml haf (by omega), if_pos y1]; rfl
    · exact absurd y2 (by omega)
  · rw [x_p_ne h2, x_p_ne h2, ms_d_out h1]
  · rw [x_p_ne (by omega), x_p_ne (by omega), ms_d_row h1 h2]
  · rw [x_p_row (by omega), x_p_row (by omega), ms_d_out (by omega)]
theorem tm_9 (l : Launch) (G : xG) (d : xd) (tx : Nat → Nat) (L : Nat) (hL : L ≤ 60) (hln : d 175 7 = nI L) (htx : ∀ j, j < L → d 180 j = nI (tx j)) (ht7 : ∀ j, j < L → tx j < 128) (p : Nat) (hpL : p ≤ L) (h13 : d 175 13 = nI p) (h14 : d 175 14 = 0) (k9 : Nat) (hk9 : k9 < 177) (h0 : tp_c tx L p 99 = true) : ∃ d2, x_M G l yX12_parsesCommand wsX12_parsesCommand 5 0 0 [.ref (x_b G + 175), .int (nI k9)] d none d2 ∧ tm_R tx L p k9 d d2 := by
  have hd : d = ms_d d (p, false) := ms_d_is h13 h14
  have hM := c_M_parsesCommand_9 l G d tx L hL hln htx ht7 p hpL k9 hk9  h0
  have hdom : tw_dom tx L p 9 := tw_dom_9  h0
  obtain ⟨e1, e2, e3⟩ := tw_end hdom (by omega)
  rw [tw_n_9] at e1 e2 e3
  have c1 : (p + 1, false) = ms_c tx L p 9 1 := ms_c_1 (by rw [tw_N_9_0]; exact h0)
  have c2 : ms_nd tx L (ms_c tx L p 9 1) 97 = ms_c tx L p 9 2 := by rw [← tw_N_9_1]; exact ms_c_s
  have c3 : ms_nd tx L (ms_c tx L p 9 2) 112 = ms_c tx L p 9 3 := by rw [← tw_N_9_2]; exact ms_c_s
  have g0 : ms_c tx L p 9 3 = ms_g tx L p 9 0 := ms_g_0 tw_L_9
  have g1 : ms_fs tx L (ms_g tx L p 9 0) 1 = ms_g tx L p 9 1 := ms_g_s tw_m_9_0
  have eS : ms_fs tx L (ms_nd tx L (ms_nd tx L (p + 1, false) 97) 112) 1 = ms_g tx L p 9 1 := by rw [c1, c2, c3, g0, g1]
  have v1 : (nI (ms_fv tx L (ms_nd tx L (ms_nd tx L (p + 1, false) 97) 112) 1)) = nI (ms_fv tx L (ms_g tx L p 9 0) 1) := by rw [c1, c2, c3, g0]
  refine ⟨_, by rw [← hd] at hM; exact hM, ?_, fun hc2 => ?_, fun hc2 => ?_, fun hc2 => ?_, fun j h1 h2 => ?_, fun j h1 h2 => ?_, fun j hj => ?_⟩
  · rw [x_p_ne (by omega), x_p_ne (by omega), ms_d_13, eS, e1]
  · rw [x_p_ne (by omega), x_p_ne (by omega), ms_d_14, eS, (e2 hc2).1]; rfl
  · rw [x_p_ne (by omega), x_p_ne (by omega), ms_d_14, eS, e3 hc2]; rfl
  · obtain ⟨-, hvb, hml, haf⟩ := e2 hc2
    unfold tp_v1 tp_v2
    rw [hvb, tw_n_9]
    refine ⟨?_, fun y1 => ?_, fun y2 => ?_⟩
    · rw [x_p_row (by omega), x_p_at]; rfl
    · rw [x_p_at, v1, ms_g_v tw_m_9_0 hml haf (by omega), if_pos y1]; rfl
    · exact absurd y2 (by omega)
  · rw [x_p_ne h2, x_p_ne h2, ms_d_out h1]
  · rw [x_p_ne (by omega), x_p_ne (by omega), ms_d_row h1 h2]
  · rw [x_p_row (by omega), x_p_row (by omega), ms_d_out (by omega)]
theorem tm_10 (l : Launch) (G : xG) (d : xd) (tx : Nat → Nat) (L : Nat) (hL : L ≤ 60) (hln : d 175 7 = nI L) (htx : ∀ j, j < L → d 180 j = nI (tx j)) (ht7 : ∀ j, j < L → tx j < 128) (p : Nat) (hpL : p ≤ L) (h13 : d 175 13 = nI p) (h14 : d 175 14 = 0) (k9 : Nat) (hk9 : k9 < 177) (h0 : tp_c tx L p 110 = true) : ∃ d2, x_M G l yX12_parsesCommand wsX12_parsesCommand 5 0 0 [.ref (x_b G + 175), .int (nI k9)] d none d2 ∧ tm_R tx L p k9 d d2 := by
  have hd : d = ms_d d (p, false) := ms_d_is h13 h14
  have hM := c_M_parsesCommand_10 l G d tx L hL hln htx ht7 p hpL k9 hk9  h0
  have hdom : tw_dom tx L p 10 := tw_dom_10  h0
  obtain ⟨e1, e2, e3⟩ := tw_end hdom (by omega)
  rw [tw_n_10] at e1 e2 e3
  have c1 : (p + 1, false) = ms_c tx L p 10 1 := ms_c_1 (by rw [tw_N_10_0]; exact h0)
  have c2 : ms_nd tx L (ms_c tx L p 10 1) 105 = ms_c tx L p 10 2 := by rw [← tw_N_10_1]; exact ms_c_s
  have c3 : ms_nd tx L (ms_c tx L p 10 2) 103 = ms_c tx L p 10 3 := by rw [← tw_N_10_2]; exact ms_c_s
  have c4 : ms_nd tx L (ms_c tx L p 10 3) 104 = ms_c tx L p 10 4 := by rw [← tw_N_10_3]; exact ms_c_s
  have c5 : ms_nd tx L (ms_c tx L p 10 4) 116 = ms_c tx L p 10 5 := by rw [← tw_N_10_4]; exact ms_c_s
  have g0 : ms_c tx L p 10 5 = ms_g tx L p 10 0 := ms_g_0 tw_L_10
  have eS : ms_nd tx L (ms_nd tx L (ms_nd tx L (ms_nd tx L (p + 1, false) 105) 103) 104) 116 = ms_g tx L p 10 0 := by rw [c1, c2, c3, c4, c5, g0]
  refine ⟨_, by rw [← hd] at hM; exact hM, ?_, fun hc2 => ?_, fun hc2 => ?_, fun hc2 => ?_, fun j h1 h2 => ?_, fun j h1 h2 => ?_, fun j hj => ?_⟩
  · rw [x_p_ne (by omega), ms_d_13, eS, e1]
  · rw [x_p_ne (by omega), ms_d_14, eS, (e2 hc2).1]; rfl
  · rw [x_p_ne (by omega), ms_d_14, eS, e3 hc2]; rfl
  · obtain ⟨-, hvb, hml, haf⟩ := e2 hc2
    unfold tp_v1 tp_v2
    rw [hvb, tw_n_10]
    refine ⟨?_, fun y1 => ?_, fun y2 => ?_⟩
    · rw [x_p_at]; rfl
    · exact absurd y1 (by omega)
    · exact absurd y2 (by omega)
  · rw [x_p_ne h2, ms_d_out h1]
  · rw [x_p_ne (by omega), ms_d_row h1 h2]
  · rw [x_p_row (by omega), ms_d_out (by omega)]
theorem tm_11 (l : Launch) (G : xG) (d : xd) (tx : Nat → Nat) (L : Nat) (hL : L ≤ 60) (hln : d 175 7 = nI L) (htx : ∀ j, j < L → d 180 j = nI (tx j)) (ht7 : ∀ j, j < L → tx j < 128) (p : Nat) (hpL : p ≤ L) (h13 : d 175 13 = nI p) (h14 : d 175 14 = 0) (k9 : Nat) (hk9 : k9 < 177) (h0 : tp_c tx L p 112 = true) : ∃ d2, x_M G l yX12_parsesCommand wsX12_parsesCommand 5 0 0 [.ref (x_b G + 175), .int (nI k9)] d none d2 ∧ tm_R tx L p k9 d d2 := by
  have hd : d = ms_d d (p, false) := ms_d_is h13 h14
  have hM := c_M_parsesCommand_11 l G d tx L hL hln htx ht7 p hpL k9 hk9  h0
  have hdom : tw_dom tx L p 11 := tw_dom_11  h0
  obtain ⟨e1, e2, e3⟩ := tw_end hdom (by omega)
  rw [tw_n_11] at e1 e2 e3
  have c1 : (p + 1, false) = ms_c tx L p 11 1 := ms_c_1 (by rw [tw_N_11_0]; exact h0)
  have c2 : ms_nd tx L (ms_c tx L p 11 1) 97 = ms_c tx L p 11 2 := by rw [← tw_N_11_1]; exact ms_c_s
  have c3 : ms_nd tx L (ms_c tx L p 11 2) 121 = ms_c tx L p 11 3 := by rw [← tw_N_11_2]; exact ms_c_s
  have g0 : ms_c tx L p 11 3 = ms_g tx L p 11 0 := ms_g_0 tw_L_11
  have eS : ms_nd tx L (ms_nd tx L (p + 1, false) 97) 121 = ms_g tx L p 11 0 := by rw [c1, c2, c3, g0]
  refine ⟨_, by rw [← hd] at hM; exact hM, ?_, fun hc2 => ?_, fun hc2 => ?_, fun hc2 => ?_, fun j h1 h2 => ?_, fun j h1 h2 => ?_, fun j hj => ?_⟩
  · rw [x_p_ne (by omega), ms_d_13, eS, e1]
  · rw [x_p_ne (by omega), ms_d_14, eS, (e2 hc2).1]; rfl
  · rw [x_p_ne (by omega), ms_d_14, eS, e3 hc2]; rfl
  · obtain ⟨-, hvb, hml, haf⟩ := e2 hc2
    unfold tp_v1 tp_v2
    rw [hvb, tw_n_11]
    refine ⟨?_, fun y1 => ?_, fun y2 => ?_⟩
    · rw [x_p_at]; rfl
    · exact absurd y1 (by omega)
    · exact absurd y2 (by omega)
  · rw [x_p_ne h2, ms_d_out h1]
  · rw [x_p_ne (by omega), ms_d_row h1 h2]
  · rw [x_p_row (by omega), ms_d_out (by omega)]
theorem tm_12 (l : Launch) (G : xG) (d : xd) (tx : Nat → Nat) (L : Nat) (hL : L ≤ 60) (hln : d 175 7 = nI L) (htx : ∀ j, j < L → d 180 j = nI (tx j)) (ht7 : ∀ j, j < L → tx j < 128) (p : Nat) (hpL : p ≤ L) (h13 : d 175 13 = nI p) (h14 : d 175 14 = 0) (k9 : Nat) (hk9 : k9 < 177) (hc : tp_c tx L (p + 1) 117 = true) (h0 : tp_c tx L p 98 = true) : ∃ d2, x_M G l yX12_parsesCommand wsX12_parsesCommand 5 0 0 [.ref (x_b G + 175), .int (nI k9)] d none d2 ∧ tm_R tx L p k9 d d2 := by
  have hd : d = ms_d d (p, false) := ms_d_is h13 h14
  have hM := c_M_parsesCommand_12 l G d tx L hL hln htx ht7 p hpL k9 hk9 hc h0
  have hdom : tw_dom tx L p 12 := tw_dom_12 hc h0
  obtain ⟨e1, e2, e3⟩ := tw_end hdom (by omega)
  rw [tw_n_12] at e1 e2 e3
  have c1 : (p + 1, false) = ms_c tx L p 12 1 := ms_c_1 (by rw [tw_N_12_0]; exact h0)
  have c2 : ms_nd tx L (ms_c tx L p 12 1) 117 = ms_c tx L p 12 2 := by rw [← tw_N_12_1]; exact ms_c_s
  have c3 : ms_nd tx L (ms_c tx L p 12 2) 121 = ms_c tx L p 12 3 := by rw [← tw_N_12_2]; exact ms_c_s
  have g0 : ms_c tx L p 12 3 = ms_g tx L p 12 0 := ms_g_0 tw_L_12
  have g1 : ms_fs tx L (ms_g tx L p 12 0) 1 = ms_g tx L p 12 1 := ms_g_s tw_m_12_0
  have g2 : ms_fs tx L (ms_g tx L p 12 1) 3 = ms_g tx L p 12 2 := ms_g_s tw_m_12_1
  have eS : ms_fs tx L (ms_fs tx L (ms_nd tx L (ms_nd tx L (p + 1, false) 117) 121) 1) 3 = ms_g tx L p 12 2 := by rw [c1, c2, c3, g0, g1, g2]
  have v1 : (nI (ms_fv tx L (ms_nd tx L (ms_nd tx L ((p + 1, false)) 117) 121) 1)) = nI (ms_fv tx L (ms_g tx L p 12 0) 1) := by rw [c1, c2, c3, g0]
  have v2 : (nI (ms_fv tx L (ms_fs tx L (ms_nd tx L (ms_nd tx L ((p + 1, false)) 117) 121) 1) 3)) = nI (ms_fv tx L (ms_g tx L p 12 1) 3) := by rw [c1, c2, c3, g0, g1]
  refine ⟨_, by rw [← hd] at hM; exact hM, ?_, fun hc2 => ?_, fun hc2 => ?_, fun hc2 => ?_, fun j h1 h2 => ?_, fun j h1 h2 => ?_, fun j hj => ?_⟩
  · rw [x_p_ne (by omega), x_p_ne (by omega), x_p_ne (by omega), x_p_ne (by omega), ms_d_13, eS, e1]
  · rw [x_p_ne (by omega), x_p_ne (by omega), x_p_ne (by omega), x_p_ne (by omega), ms_d_14, eS, (e2 hc2).1]; rfl
  · rw [x_p_ne (by omega), x_p_ne (by omega), x_p_ne (by omega), x_p_ne (by omega), ms_d_14, eS, e3 hc2]; rfl
  · obtain ⟨-, hvb, hml, haf⟩ := e2 hc2
    unfold tp_v1 tp_v2
    rw [hvb, tw_n_12]
    refine ⟨?_, fun y1 => ?_, fun y2 => ?_⟩
    · rw [x_p_row (by omega), x_p_row (by omega), x_p_at]; rfl
    · rw [x_p_row (by omega), x_p_at, v1, ms_g_v tw_m_12_0 hml haf (by omega), if_pos y1]; rfl
    · rw [x_p_at, v2, ms_g_v tw_m_12_1 hml haf (by omega), if_pos y2]
  · rw [x_p_ne h2, x_p_ne h2, x_p_ne h2, x_p_ne h2, ms_d_out h1]
  · rw [x_p_ne (by omega), x_p_ne (by omega), x_p_ne (by omega), x_p_ne (by omega), ms_d_row h1 h2]
  · rw [x_p_row (by omega), x_p_row (by omega), x_p_row (by omega), x_p_row (by omega), ms_d_out (by omega)]
theorem tw_none {tx : Nat → Nat} {L p : Nat} (h : ∀ j, j < 13 → ¬ tp_c tx L p (x_wN j 0) = true) : ¬ tp_co tx L p ∧ tp_ce tx L p = p := by
  have h1 : tp_vb tx L p = 13 := tp_fv_no tx L p 13 (fun j hj => by
    rw [tw_ml0 (h j hj)]
    have := x_wL_lt j hj
    omega)
  have h2 : ∀ i, i ≤ 13 → tp_mx tx L p i = 0 := by
    intro i
    induction i with
    | zero => exact fun _ => rfl
    | succ i ih => intro hi; rw [tp_mx, ih (by omega), tw_ml0 (h i (by omega))]; rfl
  unfold tp_co tp_ce
  rw [h1, if_neg (by omega), h2 13 (Nat.le_refl _)]
  exact ⟨fun z => absurd z.1 (by omega), rfl⟩
theorem tm_out (l : Launch) (G : xG) (d : xd) (tx : Nat → Nat) (L : Nat) (hL : L ≤ 60) (hln : d 175 7 = nI L) (htx : ∀ j, j < L → d 180 j = nI (tx j)) (ht7 : ∀ j, j < L → tx j < 128) (p : Nat) (hpL : p ≤ L) (h13 : d 175 13 = nI p) (h14 : d 175 14 = 0) (k9 : Nat) (hk9 : k9 < 177) (hx : (tp_h tx L p).toInt < 98 ∨ 119 < (tp_h tx L p).toInt) (hno : ∀ j, j < 13 → ¬ tp_c tx L p (x_wN j 0) = true) : ∃ d2, x_M G l yX12_parsesCommand wsX12_parsesCommand 5 0 0 [.ref (x_b G + 175), .int (nI k9)] d none d2 ∧ tm_R tx L p k9 d d2 := by
  have hd : d = ms_d d (p, false) := ms_d_is h13 h14
  have hM := c_M_parsesCommand_out l G d tx L hL hln htx ht7 p hpL k9 hk9 hx
  obtain ⟨hco, hce⟩ := tw_none hno
  refine ⟨_, by rw [← hd] at hM; exact hM, ?_, fun z => absurd z hco, fun _ => ?_, fun z => absurd z hco, fun j h1 h2 => ?_, fun j h1 h2 => ?_, fun j hj => ?_⟩
  · rw [x_p_ne (by omega), ms_d_13, hce]
  · rw [x_p_ne (by omega), ms_d_14]; rfl
  · rw [x_p_ne h2, ms_d_out h1]
  · rw [x_p_ne (by omega), ms_d_row h1 h2]
  · rw [x_p_row (by omega), ms_d_out (by omega)]
theorem tm_x100 (l : Launch) (G : xG) (d : xd) (tx : Nat → Nat) (L : Nat) (hL : L ≤ 60) (hln : d 175 7 = nI L) (htx : ∀ j, j < L → d 180 j = nI (tx j)) (ht7 : ∀ j, j < L → tx j < 128) (p : Nat) (hpL : p ≤ L) (h13 : d 175 13 = nI p) (h14 : d 175 14 = 0) (k9 : Nat) (hk9 : k9 < 177) (hx : tp_h tx L p = nI 100) (hno : ∀ j, j < 13 → ¬ tp_c tx L p (x_wN j 0) = true) : ∃ d2, x_M G l yX12_parsesCommand wsX12_parsesCommand 5 0 0 [.ref (x_b G + 175), .int (nI k9)] d none d2 ∧ tm_R tx L p k9 d d2 := by
  have hd : d = ms_d d (p, false) := ms_d_is h13 h14
  have hM := c_M_parsesCommand_x100 l G d tx L hL hln htx ht7 p hpL k9 hk9 hx
  obtain ⟨hco, hce⟩ := tw_none hno
  refine ⟨_, by rw [← hd] at hM; exact hM, ?_, fun z => absurd z hco, fun _ => ?_, fun z => absurd z hco, fun j h1 h2 => ?_, fun j h1 h2 => ?_, fun j hj => ?_⟩
  · rw [x_p_ne (by omega), ms_d_13, hce]
  · rw [x_p_ne (by omega), ms_d_14]; rfl
  · rw [x_p_ne h2, ms_d_out h1]
  · rw [x_p_ne (by omega), ms_d_row h1 h2]
  · rw [x_p_row (by omega), ms_d_out (by omega)]
theorem tm_x101 (l : Launch) (G : xG) (d : xd) (tx : Nat → Nat) (L : Nat) (hL : L ≤ 60) (hln : d 175 7 = nI L) (htx : ∀ j, j < L → d 180 j = nI (tx j)) (ht7 : ∀ j, j < L → tx j < 128) (p : Nat) (hpL : p ≤ L) (h13 : d 175 13 = nI p) (h14 : d 175 14 = 0) (k9 : Nat) (hk9 : k9 < 177) (hx : tp_h tx L p = nI 101) (hno : ∀ j, j < 13 → ¬ tp_c tx L p (x_wN j 0) = true) : ∃ d2, x_M G l yX12_parsesCommand wsX12_parsesCommand 5 0 0 [.ref (x_b G + 175), .int (nI k9)] d none d2 ∧ tm_R tx L p k9 d d2 := by
  have hd : d = ms_d d (p, false) := ms_d_is h13 h14
  have hM := c_M_parsesCommand_x101 l G d tx L hL hln htx ht7 p hpL k9 hk9 hx
  obtain ⟨hco, hce⟩ := tw_none hno
  refine ⟨_, by rw [← hd] at hM; exact hM, ?_, fun z => absurd z hco, fun _ => ?_, fun z => absurd z hco, fun j h1 h2 => ?_, fun j h1 h2 => ?_, fun j hj => ?_⟩
  · rw [x_p_ne (by omega), ms_d_13, hce]
  · rw [x_p_ne (by omega), ms_d_14]; rfl
  · rw [x_p_ne h2, ms_d_out h1]
  · rw [x_p_ne (by omega), ms_d_row h1 h2]
  · rw [x_p_row (by omega), ms_d_out (by omega)]
theorem tm_x102 (l : Launch) (G : xG) (d : xd) (tx : Nat → Nat) (L : Nat) (hL : L ≤ 60) (hln : d 175 7 = nI L) (htx : ∀ j, j < L → d 180 j = nI (tx j)) (ht7 : ∀ j, j < L → tx j < 128) (p : Nat) (hpL : p ≤ L) (h13 : d 175 13 = nI p) (h14 : d 175 14 = 0) (k9 : Nat) (hk9 : k9 < 177) (hx : tp_h tx L p = nI 102) (hno : ∀ j, j < 13 → ¬ tp_c tx L p (x_wN j 0) = true) : ∃ d2, x_M G l yX12_parsesCommand wsX12_parsesCommand 5 0 0 [.ref (x_b G + 175), .int (nI k9)] d none d2 ∧ tm_R tx L p k9 d d2 := by
  have hd : d = ms_d d (p, false) := ms_d_is h13 h14
  have hM := c_M_parsesCommand_x102 l G d tx L hL hln htx ht7 p hpL k9 hk9 hx
  obtain ⟨hco, hce⟩ := tw_none hno
  refine ⟨_, by rw [← hd] at hM; exact hM, ?_, fun z => absurd z hco, fun _ => ?_, fun z => absurd z hco, fun j h1 h2 => ?_, fun j h1 h2 => ?_, fun j hj => ?_⟩
  · rw [x_p_ne (by omega), ms_d_13, hce]
  · rw [x_p_ne (by omega), ms_d_14]; rfl
  · rw [x_p_ne h2, ms_d_out h1]
  · rw [x_p_ne (by omega), ms_d_row h1 h2]
  · rw [x_p_row (by omega), ms_d_out (by omega)]
theorem tm_x104 (l : Launch) (G : xG) (d : xd) (tx : Nat → Nat) (L : Nat) (hL : L ≤ 60) (hln : d 175 7 = nI L) (htx : ∀ j, j < L → d 180 j = nI (tx j)) (ht7 : ∀ j, j < L → tx j < 128) (p : Nat) (hpL : p ≤ L) (h13 : d 175 13 = nI p) (h14 : d 175 14 = 0) (k9 : Nat) (hk9 : k9 < 177) (hx : tp_h tx L p = nI 104) (hno : ∀ j, j < 13 → ¬ tp_c tx L p (x_wN j 0) = true) : ∃ d2, x_M G l yX12_parsesCommand wsX12_parsesCommand 5 0 0 [.ref (x_b G + 175), .int (nI k9)] d none d2 ∧ tm_R tx L p k9 d d2 := by
  have hd : d = ms_d d (p, false) := ms_d_is h13 h14
  have hM := c_M_parsesCommand_x104 l G d tx L hL hln htx ht7 p hpL k9 hk9 hx
  obtain ⟨hco, hce⟩ := tw_none hno
  refine ⟨_, by rw [← hd] at hM; exact hM, ?_, fun z => absurd z hco, fun _ => ?_, fun z => absurd z hco, fun j h1 h2 => ?_, fun j h1 h2 => ?_, fun j hj => ?_⟩
  · rw [x_p_ne (by omega), ms_d_13, hce]
  · rw [x_p_ne (by omega), ms_d_14]; rfl
  · rw [x_p_ne h2, ms_d_out h1]
  · rw [x_p_ne (by omega), ms_d_row h1 h2]
  · rw [x_p_row (by omega), ms_d_out (by omega)]
theorem tm_x105 (l : Launch) (G : xG) (d : xd) (tx : Nat → Nat) (L : Nat) (hL : L ≤ 60) (hln : d 175 7 = nI L) (htx : ∀ j, j < L → d 180 j = nI (tx j)) (ht7 : ∀ j, j < L → tx j < 128) (p : Nat) (hpL : p ≤ L) (h13 : d 175 13 = nI p) (h14 : d 175 14 = 0) (k9 : Nat) (hk9 : k9 < 177) (hx : tp_h tx L p = nI 105) (hno : ∀ j, j < 13 → ¬ tp_c tx L p (x_wN j 0) = true) : ∃ d2, x_M G l yX12_parsesCommand wsX12_parsesCommand 5 0 0 [.ref (x_b G + 175), .int (nI k9)] d none d2 ∧ tm_R tx L p k9 d d2 := by
  have hd : d = ms_d d (p, false) := ms_d_is h13 h14
  have hM := c_M_parsesCommand_x105 l G d tx L hL hln htx ht7 p hpL k9 hk9 hx
  obtain ⟨hco, hce⟩ := tw_none hno
  refine ⟨_, by rw [← hd] at hM; exact hM, ?_, fun z => absurd z hco, fun _ => ?_, fun z => absurd z hco, fun j h1 h2 => ?_, fun j h1 h2 => ?_, fun j hj => ?_⟩
  · rw [x_p_ne (by omega), ms_d_13, hce]
  · rw [x_p_ne (by omega), ms_d_14]; rfl
  · rw [x_p_ne h2, ms_d_out h1]
  · rw [x_p_ne (by omega), ms_d_row h1 h2]
  · rw [x_p_row (by omega), ms_d_out (by omega)]
theorem tm_x106 (l : Launch) (G : xG) (d : xd) (tx : Nat → Nat) (L : Nat) (hL : L ≤ 60) (hln : d 175 7 = nI L) (htx : ∀ j, j < L → d 180 j = nI (tx j)) (ht7 : ∀ j, j < L → tx j < 128) (p : Nat) (hpL : p ≤ L) (h13 : d 175 13 = nI p) (h14 : d 175 14 = 0) (k9 : Nat) (hk9 : k9 < 177) (hx : tp_h tx L p = nI 106) (hno : ∀ j, j < 13 → ¬ tp_c tx L p (x_wN j 0) = true) : ∃ d2, x_M G l yX12_parsesCommand wsX12_parsesCommand 5 0 0 [.ref (x_b G + 175), .int (nI k9)] d none d2 ∧ tm_R tx L p k9 d d2 := by
  have hd : d = ms_d d (p, false) := ms_d_is h13 h14
  have hM := c_M_parsesCommand_x106 l G d tx L hL hln htx ht7 p hpL k9 hk9 hx
  obtain ⟨hco, hce⟩ := tw_none hno
  refine ⟨_, by rw [← hd] at hM; exact hM, ?_, fun z => absurd z hco, fun _ => ?_, fun z => absurd z hco, fun j h1 h2 => ?_, fun j h1 h2 => ?_, fun j hj => ?_⟩
  · rw [x_p_ne (by omega), ms_d_13, hce]
  · rw [x_p_ne (by omega), ms_d_14]; rfl
  · rw [x_p_ne h2, ms_d_out h1]
  · rw [x_p_ne (by omega), ms_d_row h1 h2]
  · rw [x_p_row (by omega), ms_d_out (by omega)]
theorem tm_x107 (l : Launch) (G : xG) (d : xd) (tx : Nat → Nat) (L : Nat) (hL : L ≤ 60) (hln : d 175 7 = nI L) (htx : ∀ j, j < L → d 180 j = nI (tx j)) (ht7 : ∀ j, j < L → tx j < 128) (p : Nat) (hpL : p ≤ L) (h13 : d 175 13 = nI p) (h14 : d 175 14 = 0) (k9 : Nat) (hk9 : k9 < 177) (hx : tp_h tx L p = nI 107) (hno : ∀ j, j < 13 → ¬ tp_c tx L p (x_wN j 0) = true) : ∃ d2, x_M G l yX12_parsesCommand wsX12_parsesCommand 5 0 0 [.ref (x_b G + 175), .int (nI k9)] d none d2 ∧ tm_R tx L p k9 d d2 := by
  have hd : d = ms_d d (p, false) := ms_d_is h13 h14
  have hM := c_M_parsesCommand_x107 l G d tx L hL hln htx ht7 p hpL k9 hk9 hx
  obtain ⟨hco, hce⟩ := tw_none hno
  refine ⟨_, by rw [← hd] at hM; exact hM, ?_, fun z => absurd z hco, fun _ => ?_, fun z => absurd z hco, fun j h1 h2 => ?_, fun j h1 h2 => ?_, fun j hj => ?_⟩
  · rw [x_p_ne (by omega), ms_d_13, hce]
  · rw [x_p_ne (by omega), ms_d_14]; rfl
  · rw [x_p_ne h2, ms_d_out h1]
  · rw [x_p_ne (by omega), ms_d_row h1 h2]
  · rw [x_p_row (by omega), ms_d_out (by omega)]
theorem tm_x113 (l : Launch) (G : xG) (d : xd) (tx : Nat → Nat) (L : Nat) (hL : L ≤ 60) (hln : d 175 7 = nI L) (htx : ∀ j, j < L → d 180 j = nI (tx j)) (ht7 : ∀ j, j < L → tx j < 128) (p : Nat) (hpL : p ≤ L) (h13 : d 175 13 = nI p) (h14 : d 175 14 = 0) (k9 : Nat) (hk9 : k9 < 177) (hx : tp_h tx L p = nI 113) (hno : ∀ j, j < 13 → ¬ tp_c tx L p (x_wN j 0) = true) : ∃ d2, x_M G l yX12_parsesCommand wsX12_parsesCommand 5 0 0 [.ref (x_b G + 175), .int (nI k9)] d none d2 ∧ tm_R tx L p k9 d d2 := by
  have hd : d = ms_d d (p, false) := ms_d_is h13 h14
  have hM := c_M_parsesCommand_x113 l G d tx L hL hln htx ht7 p hpL k9 hk9 hx
  obtain ⟨hco, hce⟩ := tw_none hno
  refine ⟨_, by rw [← hd] at hM; exact hM, ?_, fun z => absurd z hco, fun _ => ?_, fun z => absurd z hco, fun j h1 h2 => ?_, fun j h1 h2 => ?_, fun j hj => ?_⟩
  · rw [x_p_ne (by omega), ms_d_13, hce]
  · rw [x_p_ne (by omega), ms_d_14]; rfl
  · rw [x_p_ne h2, ms_d_out h1]
  · rw [x_p_ne (by omega), ms_d_row h1 h2]
  · rw [x_p_row (by omega), ms_d_out (by omega)]
theorem tm_x115 (l : Launch) (G : xG) (d : xd) (tx : Nat → Nat) (L : Nat) (hL : L ≤ 60) (hln : d 175 7 = nI L) (htx : ∀ j, j < L → d 180 j = nI (tx j)) (ht7 : ∀ j, j < L → tx j < 128) (p : Nat) (hpL : p ≤ L) (h13 : d 175 13 = nI p) (h14 : d 175 14 = 0) (k9 : Nat) (hk9 : k9 < 177) (hx : tp_h tx L p = nI 115) (hno : ∀ j, j < 13 → ¬ tp_c tx L p (x_wN j 0) = true) : ∃ d2, x_M G l yX12_parsesCommand wsX12_parsesCommand 5 0 0 [.ref (x_b G + 175), .int (nI k9)] d none d2 ∧ tm_R tx L p k9 d d2 := by
  have hd : d = ms_d d (p, false) := ms_d_is h13 h14
  have hM := c_M_parsesCommand_x115 l G d tx L hL hln htx ht7 p hpL k9 hk9 hx
  obtain ⟨hco, hce⟩ := tw_none hno
  refine ⟨_, by rw [← hd] at hM; exact hM, ?_, fun z => absurd z hco, fun _ => ?_, fun z => absurd z hco, fun j h1 h2 => ?_, fun j h1 h2 => ?_, fun j hj => ?_⟩
  · rw [x_p_ne (by omega), ms_d_13, hce]
  · rw [x_p_ne (by omega), ms_d_14]; rfl
  · rw [x_p_ne h2, ms_d_out h1]
  · rw [x_p_ne (by omega), ms_d_row h1 h2]
  · rw [x_p_row (by omega), ms_d_out (by omega)]
theorem tm_x116 (l : Launch) (G : xG) (d : xd) (tx : Nat → Nat) (L : Nat) (hL : L ≤ 60) (hln : d 175 7 = nI L) (htx : ∀ j, j < L → d 180 j = nI (tx j)) (ht7 : ∀ j, j < L → tx j < 128) (p : Nat) (hpL : p ≤ L) (h13 : d 175 13 = nI p) (h14 : d 175 14 = 0) (k9 : Nat) (hk9 : k9 < 177) (hx : tp_h tx L p = nI 116) (hno : ∀ j, j < 13 → ¬ tp_c tx L p (x_wN j 0) = true) : ∃ d2, x_M G l yX12_parsesCommand wsX12_parsesCommand 5 0 0 [.ref (x_b G + 175), .int (nI k9)] d none d2 ∧ tm_R tx L p k9 d d2 := by
  have hd : d = ms_d d (p, false) := ms_d_is h13 h14
  have hM := c_M_parsesCommand_x116 l G d tx L hL hln htx ht7 p hpL k9 hk9 hx
  obtain ⟨hco, hce⟩ := tw_none hno
  refine ⟨_, by rw [← hd] at hM; exact hM, ?_, fun z => absurd z hco, fun _ => ?_, fun z => absurd z hco, fun j h1 h2 => ?_, fun j h1 h2 => ?_, fun j hj => ?_⟩
  · rw [x_p_ne (by omega), ms_d_13, hce]
  · rw [x_p_ne (by omega), ms_d_14]; rfl
  · rw [x_p_ne h2, ms_d_out h1]
  · rw [x_p_ne (by omega), ms_d_row h1 h2]
  · rw [x_p_row (by omega), ms_d_out (by omega)]
theorem tm_x117 (l : Launch) (G : xG) (d : xd) (tx : Nat → Nat) (L : Nat) (hL : L ≤ 60) (hln : d 175 7 = nI L) (htx : ∀ j, j < L → d 180 j = nI (tx j)) (ht7 : ∀ j, j < L → tx j < 128) (p : Nat) (hpL : p ≤ L) (h13 : d 175 13 = nI p) (h14 : d 175 14 = 0) (k9 : Nat) (hk9 : k9 < 177) (hx : tp_h tx L p = nI 117) (hno : ∀ j, j < 13 → ¬ tp_c tx L p (x_wN j 0) = true) : ∃ d2, x_M G l yX12_parsesCommand wsX12_parsesCommand 5 0 0 [.ref (x_b G + 175), .int (nI k9)] d none d2 ∧ tm_R tx L p k9 d d2 := by
  have hd : d = ms_d d (p, false) := ms_d_is h13 h14
  have hM := c_M_parsesCommand_x117 l G d tx L hL hln htx ht7 p hpL k9 hk9 hx
  obtain ⟨hco, hce⟩ := tw_none hno
  refine ⟨_, by rw [← hd] at hM; exact hM, ?_, fun z => absurd z hco, fun _ => ?_, fun z => absurd z hco, fun j h1 h2 => ?_, fun j h1 h2 => ?_, fun j hj => ?_⟩
  · rw [x_p_ne (by omega), ms_d_13, hce]
  · rw [x_p_ne (by omega), ms_d_14]; rfl
  · rw [x_p_ne h2, ms_d_out h1]
  · rw [x_p_ne (by omega), ms_d_row h1 h2]
  · rw [x_p_row (by omega), ms_d_out (by omega)]
theorem tm_x118 (l : Launch) (G : xG) (d : xd) (tx : Nat → Nat) (L : Nat) (hL : L ≤ 60) (hln : d 175 7 = nI L) (htx : ∀ j, j < L → d 180 j = nI (tx j)) (ht7 : ∀ j, j < L → tx j < 128) (p : Nat) (hpL : p ≤ L) (h13 : d 175 13 = nI p) (h14 : d 175 14 = 0) (k9 : Nat) (hk9 : k9 < 177) (hx : tp_h tx L p = nI 118) (hno : ∀ j, j < 13 → ¬ tp_c tx L p (x_wN j 0) = true) : ∃ d2, x_M G l yX12_parsesCommand wsX12_parsesCommand 5 0 0 [.ref (x_b G + 175), .int (nI k9)] d none d2 ∧ tm_R tx L p k9 d d2 := by
  have hd : d = ms_d d (p, false) := ms_d_is h13 h14
  have hM := c_M_parsesCommand_x118 l G d tx L hL hln htx ht7 p hpL k9 hk9 hx
  obtain ⟨hco, hce⟩ := tw_none hno
  refine ⟨_, by rw [← hd] at hM; exact hM, ?_, fun z => absurd z hco, fun _ => ?_, fun z => absurd z hco, fun j h1 h2 => ?_, fun j h1 h2 => ?_, fun j hj => ?_⟩
  · rw [x_p_ne (by omega), ms_d_13, hce]
  · rw [x_p_ne (by omega), ms_d_14]; rfl
  · rw [x_p_ne h2, ms_d_out h1]
  · rw [x_p_ne (by omega), ms_d_row h1 h2]
  · rw [x_p_row (by omega), ms_d_out (by omega)]
theorem tw_w0c {tx : Nat → Nat} {L p : Nat} (h : p < L → tx p ≠ 108 ∧ tx p ≠ 114 ∧ tx p ≠ 111 ∧ tx p ≠ 119 ∧ tx p ≠ 103 ∧ tx p ≠ 98 ∧ tx p ≠ 109 ∧ tx p ≠ 99 ∧ tx p ≠ 110 ∧ tx p ≠ 112) : ∀ j, j < 13 → ¬ tp_c tx L p (x_wN j 0) = true := by
  intro j hj z
  obtain ⟨z1, z2⟩ := of_decide_eq_true z
  have h2 := h z1
  have hjs : j = 0 ∨ j = 1 ∨ j = 2 ∨ j = 3 ∨ j = 4 ∨ j = 5 ∨ j = 6 ∨ j = 7 ∨ j = 8 ∨ j = 9 ∨ j = 10 ∨ j = 11 ∨ j = 12 := by omega
  rcases hjs with rfl | rfl | rfl | rfl | rfl | rfl | rfl | rfl | rfl | rfl | rfl | rfl | rfl
  · rw [tw_N_0_0] at z2; omega
  · rw [tw_N_1_0] at z2; omega
  · rw [tw_N_2_0] at z2; omega
  · rw [tw_N_3_0] at z2; omega
  · rw [tw_N_4_0] at z2; omega
  · rw [tw_N_5_0] at z2; omega
  · rw [tw_N_6_0] at z2; omega
  · rw [tw_N_7_0] at z2; omega
  · rw [tw_N_8_0] at z2; omega
  · rw [tw_N_9_0] at z2; omega
  · rw [tw_N_10_0] at z2; omega
  · rw [tw_N_11_0] at z2; omega
  · rw [tw_N_12_0] at z2; omega
theorem tm_all (l : Launch) (G : xG) (d : xd) (tx : Nat → Nat) (L : Nat) (hL : L ≤ 60) (hln : d 175 7 = nI L) (htx : ∀ j, j < L → d 180 j = nI (tx j)) (ht7 : ∀ j, j < L → tx j < 128) (p : Nat) (hpL : p ≤ L) (h13 : d 175 13 = nI p) (h14 : d 175 14 = 0) (k9 : Nat) (hk9 : k9 < 177) : ∃ d2, x_M G l yX12_parsesCommand wsX12_parsesCommand 5 0 0 [.ref (x_b G + 175), .int (nI k9)] d none d2 ∧ tm_R tx L p k9 d d2 := by
  by_cases hp : p < L
  · have h7 := ht7 p hp
    have hh : tp_h tx L p = nI (tx p) := if_pos hp
    have hcs : tx p < 98 ∨ 119 < tx p ∨ tx p = 98 ∨ tx p = 99 ∨ tx p = 100 ∨ tx p = 101 ∨ tx p = 102 ∨ tx p = 103 ∨ tx p = 104 ∨ tx p = 105 ∨ tx p = 106 ∨ tx p = 107 ∨ tx p = 108 ∨ tx p = 109 ∨ tx p = 110 ∨ tx p = 111 ∨ tx p = 112 ∨ tx p = 113 ∨ tx p = 114 ∨ tx p = 115 ∨ tx p = 116 ∨ tx p = 117 ∨ tx p = 118 ∨ tx p = 119 := by omega
    rcases hcs with q | q | q | q | q | q | q | q | q | q | q | q | q | q | q | q | q | q | q | q | q | q | q | q
    · exact tm_out l G d tx L hL hln htx ht7 p hpL h13 h14 k9 hk9 (Or.inl (by rw [hh, nI_toInt (by omega)]; omega)) (tw_w0c (fun _ => by omega))
    · exact tm_out l G d tx L hL hln htx ht7 p hpL h13 h14 k9 hk9 (Or.inr (by rw [hh, nI_toInt (by omega)]; omega)) (tw_w0c (fun _ => by omega))
    · by_cases y : tp_c tx L (p + 1) 117 = true
      · exact tm_12 l G d tx L hL hln htx ht7 p hpL h13 h14 k9 hk9 y (decide_eq_true ⟨hp, q⟩)
      · exact tm_5 l G d tx L hL hln htx ht7 p hpL h13 h14 k9 hk9 y (decide_eq_true ⟨hp, q⟩)
    · exact tm_9 l G d tx L hL hln htx ht7 p hpL h13 h14 k9 hk9 (decide_eq_true ⟨hp, q⟩)
    · exact tm_x100 l G d tx L hL hln htx ht7 p hpL h13 h14 k9 hk9 (by rw [hh, q]) (tw_w0c (fun _ => by omega))
    · exact tm_x101 l G d tx L hL hln htx ht7 p hpL h13 h14 k9 hk9 (by rw [hh, q]) (tw_w0c (fun _ => by omega))
    · exact tm_x102 l G d tx L hL hln htx ht7 p hpL h13 h14 k9 hk9 (by rw [hh, q]) (tw_w0c (fun _ => by omega))
    · exact tm_4 l G d tx L hL hln htx ht7 p hpL h13 h14 k9 hk9 (decide_eq_true ⟨hp, q⟩)
    · exact tm_x104 l G d tx L hL hln htx ht7 p hpL h13 h14 k9 hk9 (by rw [hh, q]) (tw_w0c (fun _ => by omega))
    · exact tm_x105 l G d tx L hL hln htx ht7 p hpL h13 h14 k9 hk9 (by rw [hh, q]) (tw_w0c (fun _ => by omega))
    · exact tm_x106 l G d tx L hL hln htx ht7 p hpL h13 h14 k9 hk9 (by rw [hh, q]) (tw_w0c (fun _ => by omega))
    · exact tm_x107 l G d tx L hL hln htx ht7 p hpL h13 h14 k9 hk9 (by rw [hh, q]) (tw_w0c (fun _ => by omega))
    · exact tm_0 l G d tx L hL hln htx ht7 p hpL h13 h14 k9 hk9 (decide_eq_true ⟨hp, q⟩)
    · exact tm_8 l G d tx L hL hln htx ht7 p hpL h13 h14 k9 hk9 (decide_eq_true ⟨hp, q⟩)
    · exact tm_10 l G d tx L hL hln htx ht7 p hpL h13 h14 k9 hk9 (decide_eq_true ⟨hp, q⟩)
    · by_cases y : tp_c tx L (p + 1) 105 = true
      · exact tm_2 l G d tx L hL hln htx ht7 p hpL h13 h14 k9 hk9 y (decide_eq_true ⟨hp, q⟩)
      · by_cases y2 : tp_c tx L (p + 1) 102 = true
        · exact tm_7 l G d tx L hL hln htx ht7 p hpL h13 h14 k9 hk9 y y2 (decide_eq_true ⟨hp, q⟩)
        · exact tm_6 l G d tx L hL hln htx ht7 p hpL h13 h14 k9 hk9 y y2 (decide_eq_true ⟨hp, q⟩)
    · exact tm_11 l G d tx L hL hln htx ht7 p hpL h13 h14 k9 hk9 (decide_eq_true ⟨hp, q⟩)
    · exact tm_x113 l G d tx L hL hln htx ht7 p hpL h13 h14 k9 hk9 (by rw [hh, q]) (tw_w0c (fun _ => by omega))
    · exact tm_1 l G d tx L hL hln htx ht7 p hpL h13 h14 k9 hk9 (decide_eq_true ⟨hp, q⟩)
    · exact tm_x115 l G d tx L hL hln htx ht7 p hpL h13 h14 k9 hk9 (by rw [hh, q]) (tw_w0c (fun _ => by omega))
    · exact tm_x116 l G d tx L hL hln htx ht7 p hpL h13 h14 k9 hk9 (by rw [hh, q]) (tw_w0c (fun _ => by omega))
    · exact tm_x117 l G d tx L hL hln htx ht7 p hpL h13 h14 k9 hk9 (by rw [hh, q]) (tw_w0c (fun _ => by omega))
    · exact tm_x118 l G d tx L hL hln htx ht7 p hpL h13 h14 k9 hk9 (by rw [hh, q]) (tw_w0c (fun _ => by omega))
    · exact tm_3 l G d tx L hL hln htx ht7 p hpL h13 h14 k9 hk9 (decide_eq_true ⟨hp, q⟩)
  · have hh : tp_h tx L p = -1 := if_neg hp
    exact tm_out l G d tx L hL hln htx ht7 p hpL h13 h14 k9 hk9 (Or.inl (by rw [hh]; decide)) (tw_w0c (fun z => absurd z hp))
