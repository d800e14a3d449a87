/-! moths leave -/
theorem k_mono (s : Nat → Int32) : ∀ {i j : Nat}, i ≤ j → f_k s i ≤ f_k s j := by
  intro i j h
  induction j with
  | zero =>
    have e : i = 0 := by omega
    subst e; exact Nat.le_refl _
  | succ j ih =>
    rcases Nat.lt_or_ge i (j + 1) with z | z
    · have h1 := ih (by omega)
      rw [f_k]
      split <;> omega
    · have e : i = j + 1 := by omega
      subst e; exact Nat.le_refl _
theorem k_s {s : Nat → Int32} {i : Nat} (h : s i < 2) : f_k s (i + 1) = f_k s i + 1 := by rw [f_k, if_pos h]
theorem k_n {s : Nat → Int32} {i : Nat} (h : ¬ s i < 2) : f_k s (i + 1) = f_k s i := by rw [f_k, if_neg h]
theorem k_step (s : Nat → Int32) (i j : Nat) (h : i ≤ j) : f_k s j ≤ f_k s i + (j - i) := by
  induction j with
  | zero =>
    have e : i = 0 := by omega
    subst e; exact Nat.le_refl _
  | succ j ih =>
    rcases Nat.lt_or_ge i (j + 1) with z | z
    · have h1 := ih (by omega)
      rw [f_k]
      split <;> omega
    · have e : i = j + 1 := by omega
      subst e; omega
/-- each place below the count is a staying one's -/
theorem k_onto (s : Nat → Int32) : ∀ q t, t < f_k s q → ∃ j, j < q ∧ s j < 2 ∧ f_k s j = t
  | 0, t, h => absurd h (Nat.not_lt_zero t)
  | q + 1, t, h => by
    by_cases y : s q < 2
    · rw [k_s y] at h
      rcases Nat.lt_or_ge t (f_k s q) with z | z
      · obtain ⟨j, h1, h2, h3⟩ := k_onto s q t z
        exact ⟨j, by omega, h2, h3⟩
      · exact ⟨q, by omega, y, by omega⟩
    · rw [k_n y] at h
      obtain ⟨j, h1, h2, h3⟩ := k_onto s q t h
      exact ⟨j, by omega, h2, h3⟩
theorem c_cmp (g s : Nat → Int32) : ∀ q j, j < q → s j < 2 → f_cmp g s q (f_k s j) = g j
  | 0, j, h, _ => absurd h (Nat.not_lt_zero j)
  | q + 1, j, h, hs => by
    rw [f_cmp]
    rcases Nat.lt_or_ge j q with z | z
    · have ih := c_cmp g s q j z hs
      by_cases y : s q < 2
      · rw [if_pos y]
        have h1 : f_k s (j + 1) ≤ f_k s q := k_mono s (by omega)
        rw [k_s hs] at h1
        rw [x_upd_ne (by omega)]
        exact ih
      · rw [if_neg y]
        exact ih
    · have e : j = q := by omega
      subst e
      rw [if_pos hs, x_upd_at]
theorem g_lv1_at {z : Nat → Int32} {w b p : Nat} (hw : w < 6) (hb : b = 62 ∨ b = 68 ∨ b = 74) (hp : p < 5) (h : z (68 + w) = 2) : g_lv1 z w (b + p) = if p < w then z (b + p) else z (b + p + 1) := by
  unfold g_lv1
  rw [if_pos h, x_upd_ne (by omega)]
  unfold g_cgp
  rcases hb with rfl | rfl | rfl
  · rw [if_neg (show ¬ 62 + p = 74 + 6 - 1 by omega), if_neg (show ¬ (74 + w ≤ 62 + p ∧ 62 + p < 74 + 6 - 1) by omega), if_neg (show ¬ 62 + p = 68 + 6 - 1 by omega), if_neg (show ¬ (68 + w ≤ 62 + p ∧ 62 + p < 68 + 6 - 1) by omega), if_neg (show ¬ 62 + p = 62 + 6 - 1 by omega)]
    by_cases y : p < w
    · rw [if_pos y, if_neg (show ¬ (62 + w ≤ 62 + p ∧ 62 + p < 62 + 6 - 1) by omega)]
    · rw [if_neg y, if_pos (show 62 + w ≤ 62 + p ∧ 62 + p < 62 + 6 - 1 by omega)]
  · rw [if_neg (show ¬ 68 + p = 74 + 6 - 1 by omega), if_neg (show ¬ (74 + w ≤ 68 + p ∧ 68 + p < 74 + 6 - 1) by omega), if_neg (show ¬ 68 + p = 68 + 6 - 1 by omega)]
    by_cases y : p < w
    · rw [if_pos y, if_neg (show ¬ (68 + w ≤ 68 + p ∧ 68 + p < 68 + 6 - 1) by omega), if_neg (show ¬ 68 + p = 62 + 6 - 1 by omega), if_neg (show ¬ (62 + w ≤ 68 + p ∧ 68 + p < 62 + 6 - 1) by omega)]
    · rw [if_neg y, if_pos (show 68 + w ≤ 68 + p ∧ 68 + p < 68 + 6 - 1 by omega), if_neg (show ¬ 68 + p + 1 = 62 + 6 - 1 by omega), if_neg (show ¬ (62 + w ≤ 68 + p + 1 ∧ 68 + p + 1 < 62 + 6 - 1) by omega)]
  · rw [if_neg (show ¬ 74 + p = 74 + 6 - 1 by omega)]
    by_cases y : p < w
    · rw [if_pos y, if_neg (show ¬ (74 + w ≤ 74 + p ∧ 74 + p < 74 + 6 - 1) by omega), if_neg (show ¬ 74 + p = 68 + 6 - 1 by omega), if_neg (show ¬ (68 + w ≤ 74 + p ∧ 74 + p < 68 + 6 - 1) by omega), if_neg (show ¬ 74 + p = 62 + 6 - 1 by omega), if_neg (show ¬ (62 + w ≤ 74 + p ∧ 74 + p < 62 + 6 - 1) by omega)]
    · rw [if_neg y, if_pos (show 74 + w ≤ 74 + p ∧ 74 + p < 74 + 6 - 1 by omega), if_neg (show ¬ 74 + p + 1 = 68 + 6 - 1 by omega), if_neg (show ¬ (68 + w ≤ 74 + p + 1 ∧ 74 + p + 1 < 68 + 6 - 1) by omega), if_neg (show ¬ 74 + p + 1 = 62 + 6 - 1 by omega), if_neg (show ¬ (62 + w ≤ 74 + p + 1 ∧ 74 + p + 1 < 62 + 6 - 1) by omega)]
theorem g_lv_is {z : Nat → Int32} {q : Nat} {s : Nat → Int32} (hq : q ≤ 6) (hs : ∀ k, k < q → s k = z (68 + k)) (h012 : ∀ k, k < q → (¬ s k < 2 ↔ s k = 2)) (h1 : z 1 = nI q) : ∀ u, u ≤ q →
    (∀ b, b = 62 ∨ b = 68 ∨ b = 74 → (∀ p, p < q - u → g_lv z q u (b + p) = z (b + p)) ∧ (∀ j, q - u ≤ j → j < q → s j < 2 → g_lv z q u (b + (q - u + (f_k s j - f_k s (q - u)))) = z (b + j))) ∧ g_lv z q u 1 = nI (q - u + (f_k s q - f_k s (q - u)))
  | 0, _ => by
    refine ⟨fun b hb => ⟨fun p hp => rfl, fun j h1 h2 => absurd h2 (by omega)⟩, ?_⟩
    rw [g_lv, h1, Nat.sub_zero, Nat.sub_self, Nat.add_zero]
  | u + 1, hu => by
    obtain ⟨ih1, ih2⟩ := g_lv_is hq hs h012 h1 u (by omega)
    have hw : q - u = (q - 1 - u) + 1 := by omega
    have hw2 : q - (u + 1) = q - 1 - u := by omega
    rw [hw] at ih1 ih2
    rw [hw2, g_lv]
    generalize hwe : q - 1 - u = w at ih1 ih2
    have hwq : w < q := by omega
    have h68 : g_lv z q u (68 + w) = s w := by rw [(ih1 68 (Or.inr (Or.inl rfl))).1 w (by omega), hs w hwq]
    have hkq := k_mono s (i := w + 1) (j := q) (by omega)
    by_cases y : s w < 2
    · have y2 : ¬ g_lv z q u (68 + w) = 2 := by
        rw [h68]
        exact fun e => (h012 w hwq).mpr e y
      have hk := k_s y
      have e : g_lv1 (g_lv z q u) w = g_lv z q u := by
        unfold g_lv1
        rw [if_neg y2]
      rw [e]
      refine ⟨fun b hb => ⟨fun p hp => (ih1 b hb).1 p (by omega), fun j hj hj2 hj3 => ?_⟩, ?_⟩
      · rcases Nat.lt_or_ge w j with x | x
        · have h9 := (ih1 b hb).2 j (by omega) hj2 hj3
          have hm := k_mono s (i := w + 1) (j := j) (by omega)
          rw [hk] at h9 hm
          rw [show w + (f_k s j - f_k s w) = w + 1 + (f_k s j - (f_k s w + 1)) by omega]
          exact h9
        · have e2 : j = w := by omega
          subst e2
          rw [Nat.sub_self, Nat.add_zero]
          exact (ih1 b hb).1 j (by omega)
      · rw [ih2]
        congr 1
        omega
    · have y2 : g_lv z q u (68 + w) = 2 := by
        rw [h68]
        exact (h012 w hwq).mp y
      have hk := k_n y
      refine ⟨fun b hb => ⟨fun p hp => ?_, fun j hj hj2 hj3 => ?_⟩, ?_⟩
      · rw [g_lv1_at (by omega) hb (by omega) y2, if_pos hp]
        exact (ih1 b hb).1 p (by omega)
      · have x : w < j := by
          rcases Nat.lt_or_ge w j with x | x
          · exact x
          · have e2 : j = w := by omega
            subst e2
            exact absurd hj3 y
        have h9 := (ih1 b hb).2 j (by omega) hj2 hj3
        have hm := k_mono s (i := w + 1) (j := j) (by omega)
        have hst := k_step s (w + 1) j (by omega)
        rw [hk] at h9 hm hst
        rw [g_lv1_at (by omega) hb (by omega) y2, if_neg (by omega), show b + (w + (f_k s j - f_k s w)) + 1 = b + (w + 1 + (f_k s j - f_k s w)) by omega]
        exact h9
      · unfold g_lv1
        rw [if_pos y2, x_upd_at, ih2, hk]
        exact pk_sub (b := 1) (by omega) |>.trans (by congr 1; omega)
theorem t_dis {B : Nat} {D : xd} {o n q : Nat} {Z : Nat → Int32} (e : r_E D o Z n q) (w9 : r_W D o n q q) (m9 : r_M D o n B) (bl : f_bal D o n) : r_T B (f_dis D o q) o (g_lv Z q q) n (f_k (D (o + 11)) q) := by
  obtain ⟨e1, e2, e3, e4, e5, e6, e7⟩ := e
  obtain ⟨w1, w2, w3, w4, w5⟩ := w9
  have h012 : ∀ k, k < q → (¬ D (o + 11) k < 2 ↔ D (o + 11) k = 2) := by
    intro k hk
    obtain ⟨-, ⟨s, s1, s2, -⟩, -⟩ := w4 k hk
    rw [s2, show (2 : Int32) = nI 2 from rfl, nI_ltI (by omega) (by omega), nI_eq (by omega) (by omega)]
    omega
  obtain ⟨l1, l2⟩ := g_lv_is w2 (fun k hk => (e6 k hk).2.1) h012 e4 q (Nat.le_refl q)
  rw [Nat.sub_self] at l1 l2
  have hk0 : f_k (D (o + 11)) 0 = 0 := rfl
  rw [hk0, Nat.sub_zero, Nat.zero_add] at l2
  have hle := f_k_le (D (o + 11)) q
  have r10 : f_dis D o q (o + 10) = f_cmp (D (o + 10)) (D (o + 11)) q := by
    unfold f_dis
    rw [x_p_ne (by omega), x_r_ne2 (by omega), x_r_ne2 (by omega), x_r_same]
  have r11 : f_dis D o q (o + 11) = f_cmp (D (o + 11)) (D (o + 11)) q := by
    unfold f_dis
    rw [x_p_ne (by omega), x_r_ne2 (by omega), x_r_same]
  have r12 : f_dis D o q (o + 12) = f_cmp (D (o + 12)) (D (o + 11)) q := by
    unfold f_dis
    rw [x_p_ne (by omega), x_r_same]
  have O : ∀ k, k < o + 9 ∨ o + 12 < k → f_dis D o q k = D k := fun k hk => f_dis_out hk
  have L : ∀ j, j < 62 ∨ 80 ≤ j → j ≠ 1 → g_lv Z q q j = Z j := fun j h1 h2 => g_lv_out h1 h2 q
  refine ⟨⟨?_, ?_, ?_, ?_, fun i hi => ?_, fun k hk => ?_, ?_⟩, ⟨w1, by omega, fun i hi => ?_, fun k hk => ?_, ?_⟩, ?_, ?_⟩
  · rw [O _ (by omega)]; exact e1
  · rw [L _ (by omega) (by omega)]; exact e2
  · unfold f_dis; rw [x_p_at]
  · exact l2
  · rw [O _ (by omega), O _ (by omega), O _ (by omega), O _ (by omega), O _ (by omega), O _ (by omega), O _ (by omega), L _ (by omega) (by omega), L _ (by omega) (by omega), L _ (by omega) (by omega), L _ (by omega) (by omega), L _ (by omega) (by omega), L _ (by omega) (by omega), L _ (by omega) (by omega)]
    exact e5 i hi
  · obtain ⟨j, j1, j2, j3⟩ := k_onto _ q k hk
    have a10 := (l1 62 (Or.inl rfl)).2 j (Nat.zero_le j) j1 j2
    have a11 := (l1 68 (Or.inr (Or.inl rfl))).2 j (Nat.zero_le j) j1 j2
    have a12 := (l1 74 (Or.inr (Or.inr rfl))).2 j (Nat.zero_le j) j1 j2
    rw [hk0, Nat.sub_zero, Nat.zero_add, j3] at a10 a11 a12
    rw [r10, r11, r12, a10, a11, a12, ← j3, c_cmp _ _ q j j1 j2, c_cmp _ _ q j j1 j2, c_cmp _ _ q j j1 j2]
    exact e6 j j1
  · rw [O _ (by omega), L _ (by omega) (by omega), L _ (by omega) (by omega), L _ (by omega) (by omega), L _ (by omega) (by omega)]
    exact e7
  · rw [O (o + 2) (by omega), O (o + 3) (by omega), O (o + 4) (by omega), O (o + 6) (by omega), O (o + 7) (by omega)]
    exact w3 i hi
  · obtain ⟨j, j1, j2, j3⟩ := k_onto _ q k hk
    rw [r10, r11, r12, ← j3, c_cmp _ _ q j j1 j2, c_cmp _ _ q j j1 j2, c_cmp _ _ q j j1 j2]
    obtain ⟨x1, ⟨s, s1, s2, -⟩, x3⟩ := w4 j j1
    refine ⟨x1, ?_, x3⟩
    rw [s2, show (2 : Int32) = nI 2 from rfl, nI_ltI (by omega) (by omega)] at j2
    rw [s2]
    have hs01 : s = 0 ∨ s = 1 := by omega
    rcases hs01 with rfl | rfl
    · exact Or.inl rfl
    · exact Or.inr rfl
  · rw [O _ (by omega)]; exact w5
  · exact m_cong m9 (fun _ _ => by rw [O _ (by omega)]) (by rw [O _ (by omega)]) (Nat.le_refl B)
  · exact b_cong bl (fun _ _ => by rw [O _ (by omega)]) (fun _ _ => by rw [O _ (by omega)]) (fun _ _ => by rw [O _ (by omega)]) (fun _ _ => by rw [O _ (by omega)])
/-! subsidies -/
theorem t_bi {D : xd} {o n s : Nat} {z : Nat → Int32} {b : Nat → Bool} (hw : ∀ j, j < n → D (o + 2) j = z (6 + j)) (hb : ∀ j, j < n → D 158 j = x_bi (b j = true)) : ∀ m, m ≤ n → f_bi D o (nI s) m = g_ls b (g_row z 6) s m
  | 0, _ => rfl
  | m + 1, hm => by
    rw [f_bi, g_ls, t_bi hw hb m (by omega), hw m (by omega), hb m (by omega)]
    congr 1
    refine decide_eq_decide.mpr (and_congr Iff.rfl ?_)
    cases b m with
    | true => exact ⟨fun _ => rfl, fun _ => by rw [x_bi_t rfl]; decide⟩
    | false => exact ⟨fun y => absurd (by rw [x_bi_f (by simp)]; decide) y, fun y => absurd y (by simp)⟩
theorem f_ps_13 {D : xd} {o n j : Nat} (h2 : j ≠ 2) (h9 : j ≠ 9) : ∀ i, f_ps D o n i (o + 13) j = D (o + 13) j
  | 0 => rfl
  | i + 1 => by
    rw [f_ps]
    split
    · exact f_ps_13 h2 h9 i
    · rw [x_p_row h9, x_p_row h2]
      exact f_ps_13 h2 h9 i
theorem f_ps_2 {D : xd} {o n : Nat} {x t0 : Int32} (hbit : ∀ s, s < 4 → (f_bi D o (nI s) n = true ↔ g_on x s)) (h0 : D (o + 13) 2 = t0) : ∀ i, i ≤ 4 → f_ps D o n i (o + 13) 2 = g_tr x t0 i ∧ f_ps D o n i (o + 13) 9 - D (o + 13) 9 = f_ps D o n i (o + 13) 2 - D (o + 13) 2 ∧ ∃ k, k ≤ 3 * i ∧ f_ps D o n i (o + 13) 2 = D (o + 13) 2 + nI k
  | 0, _ => ⟨h0, by rw [f_ps]; grind, 0, by omega, by rw [f_ps, nI_0, Int32.add_zero]⟩
  | i + 1, hi => by
    obtain ⟨h1, h2, k, h3, h4⟩ := f_ps_2 hbit h0 i (by omega)
    rw [f_ps, g_tr]
    by_cases y : f_bi D o (nI i) n = true
    · have y2 : (x >>> (nI i &&& 31)) &&& 1 = 1 := (hbit i (by omega)).mp y
      rw [if_pos y, if_pos y2, Int32.add_zero]
      exact ⟨h1, h2, k, by omega, h4⟩
    · have y2 : ¬ (x >>> (nI i &&& 31)) &&& 1 = 1 := fun q => y ((hbit i (by omega)).mpr q)
      rw [if_neg y, if_neg y2]
      refine ⟨?_, ?_, k + 3, by omega, ?_⟩
      · rw [x_p_row (by omega), x_p_at, h1]
      · rw [x_p_at, x_p_row (by omega), x_p_at]
        grind
      · rw [x_p_row (by omega), x_p_at, h4, ← nI_add]
        show _ = D (o + 13) 2 + (nI k + 3)
        grind
theorem t_night {B : Nat} {d : xd} {o n q : Nat} {z : Nat → Int32} (h : r_T B d o z n q) (ho : 1 ≤ o ∧ o + 14 ≤ 157) (hB : B < 100000) : (∃ q2, r_T (B + 12) (f_night d o n q) o (g_ngt z n q) n q2) ∧ f_cb d o n = g_cn (g_rdy z) n := by
  have hz2 : z 2 = d (o + 13) 3 := h.1.2.2.2.2.2.2.1.symm
  obtain ⟨h1, h2, h3, h4, h5, h6⟩ := t_brn h ho
  have hn := h.2.1.1
  have hq := h.2.1.2.1
  refine ⟨⟨f_k (f_ma (f_brn d o n) o q (o + 11)) q, ?_⟩, h6⟩
  obtain ⟨a1, a2, a3, a4, a5, a6⟩ := t_ma h1 h2 h3 h4 h5 ho.2 q (Nat.le_refl q)
  have hd := t_dis a1 a2 a3 a4
  have hni : g_lv (g_acts (g_n1 z (g_rdy z) n) (g_rdy z) q) q q = g_ni z n q := rfl
  rw [hni] at hd
  have hcr : ∀ k, k < q → g_n1 z (g_rdy z) n (62 + k) - 1 = -1 ∨ ∃ w, w < n ∧ g_n1 z (g_rdy z) n (62 + k) - 1 = nI w := fun k hk => by
    rw [← (h1.2.2.2.2.2.1 k hk).1]
    exact (h2.2.2.2.1 k hk).1
  have hlo : ∀ j, j < 38 → j ≠ 1 → g_ni z n q j = z j := fun j h1 h2 => by
    unfold g_ni
    rw [g_lv_out (by omega) h2, g_acts_out (by omega) (by omega) hn hq hcr q (Nat.le_refl q), g_n1_out (by omega) (by omega)]
  generalize hX : f_dis (f_ma (f_brn d o n) o q) o q = X at hd
  have hX158 : ∀ j, j < n → X 158 j = x_bi (g_rdy z j = true) := fun j hj => by
    rw [← hX, f_dis_out (by omega), a5]
    exact h5 j hj
  obtain ⟨e, v, m9, bl⟩ := hd
  have hstr : ∀ j, j < n → X (o + 2) j = z (6 + j) := fun j hj => by
    rw [(e.2.2.2.2.1 j hj).1, hlo _ (by omega) (by omega)]
  have hbit : ∀ s, s < 4 → (f_bi X o (nI s) n = true ↔ g_on (g_lt (g_rdy z) (g_row z 6) n) s) := fun s hs => by
    rw [t_bi hstr hX158 n (Nat.le_refl n)]
    refine (g_lt_on (g_rdy z) (g_row z 6) hn (fun j hj => ?_) hs).symm
    obtain ⟨⟨a, x1, x2⟩, -⟩ := v.2.2.1 j hj
    exact ⟨a, x1, (hstr j hj).symm.trans x2⟩
  have h05 : X (o + 13) 2 = z 5 := by
    have x := e.2.2.2.2.2.2.2.2.2
    rw [hlo 5 (by omega) (by omega)] at x
    exact x
  obtain ⟨p1, p2, k, p3, p4⟩ := f_ps_2 hbit h05 4 (Nat.le_refl 4)
  have N3 : f_n3 d o n q = f_ps X o n 4 := by unfold f_n3; rw [hX]
  have O : ∀ k, k ≠ o + 13 → f_night d o n q k = X k := fun k hk => by
    unfold f_night
    rw [x_p_ne hk, N3, f_ps_out hk]
  have P13 : ∀ j, j ≠ 3 → f_night d o n q (o + 13) j = f_ps X o n 4 (o + 13) j := fun j hj => by
    unfold f_night
    rw [x_p_row hj, N3]
  have P3 : f_night d o n q (o + 13) 3 = X (o + 13) 3 + 1 := by
    unfold f_night
    rw [x_p_at, N3, f_ps_13 (by omega) (by omega)]
  have Z : ∀ j, j ≠ 5 → j ≠ 2 → g_ngt z n q j = g_ni z n q j := fun j h5 h2 => by
    unfold g_ngt
    rw [x_upd_ne h2, x_upd_ne h5]
  obtain ⟨e1, e2, e3, e4, e5, e6, e70, e71, e72, e73⟩ := e
  obtain ⟨v1, v2, v3, v4, v5⟩ := v
  refine ⟨⟨?_, ?_, ?_, ?_, fun i hi => ?_, fun k hk => ?_, ?_⟩, ⟨v1, v2, fun i hi => ?_, fun k hk => ?_, ?_⟩, ?_, ?_⟩
  · rw [O _ (by omega)]; exact e1
  · rw [Z _ (by omega) (by omega)]; exact e2
  · rw [O _ (by omega)]; exact e3
  · rw [Z _ (by omega) (by omega)]; exact e4
  · rw [O _ (by omega), O _ (by omega), O _ (by omega), O _ (by omega), O _ (by omega), O _ (by omega), O _ (by omega), Z _ (by omega) (by omega), Z _ (by omega) (by omega), Z _ (by omega) (by omega), Z _ (by omega) (by omega), Z _ (by omega) (by omega), Z _ (by omega) (by omega), Z _ (by omega) (by omega)]
    exact e5 i hi
  · rw [O _ (by omega), O _ (by omega), O _ (by omega), Z _ (by omega) (by omega), Z _ (by omega) (by omega), Z _ (by omega) (by omega)]
    exact e6 k hk
  · rw [P3, P13 0 (by omega), P13 1 (by omega), P13 2 (by omega), f_ps_13 (by omega) (by omega), f_ps_13 (by omega) (by omega), p1, Z 3 (by omega) (by omega), Z 4 (by omega) (by omega)]
    refine ⟨?_, e71, e72, ?_⟩
    · unfold g_ngt
      rw [x_upd_at, e70, hlo 2 (by omega) (by omega)]
    · unfold g_ngt
      rw [x_upd_ne (by omega), x_upd_at]
  · rw [O (o + 2) (by omega), O (o + 3) (by omega), O (o + 4) (by omega), O (o + 6) (by omega), O (o + 7) (by omega)]
    exact v3 i hi
  · rw [O (o + 10) (by omega), O (o + 11) (by omega), O (o + 12) (by omega)]
    exact v4 k hk
  · rw [P13 1 (by omega), f_ps_13 (by omega) (by omega)]; exact v5
  · obtain ⟨b, t, x1, x2, x3⟩ := m9
    refine ⟨b, t + k, fun i hi => by rw [O _ (by omega)]; exact x1 i hi, ?_, by omega⟩
    rw [P13 2 (by omega), p4, x2, nI_add]
  · obtain ⟨b1, b2, b3⟩ := bl
    unfold f_bal
    rw [O (o + 6) (by omega), O (o + 7) (by omega), O (o + 8) (by omega), P13 0 (by omega), P13 1 (by omega), P13 2 (by omega), P13 4 (by omega), P13 5 (by omega), P13 6 (by omega), P13 7 (by omega), P13 8 (by omega), P13 9 (by omega),
      f_ps_13 (j := 0) (by omega) (by omega), f_ps_13 (j := 1) (by omega) (by omega), f_ps_13 (j := 4) (by omega) (by omega), f_ps_13 (j := 5) (by omega) (by omega), f_ps_13 (j := 6) (by omega) (by omega), f_ps_13 (j := 7) (by omega) (by omega), f_ps_13 (j := 8) (by omega) (by omega)]
    refine ⟨b1, b2, ?_⟩
    grind

