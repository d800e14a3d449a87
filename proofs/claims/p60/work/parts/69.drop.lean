/-! a lamp gone -/
theorem va_gapc {f : Nat → Int32} {i m j : Nat} (hj : j < m) (hi : i ≤ m) : va_cpy f f (i + 1) i (m + 1 - i - 1) j = if j < i then f j else f (j + 1) := by
  by_cases h : j < i
  · rw [if_pos h, pk_cpy_out (Or.inl h)]
  · rw [if_neg h, pk_cpy_in (by omega) (by omega)]
    congr 1
    omega
def f_dw (d : xd) (o i : Nat) : xd := x_p (x_p (x_p d (o + 13) 0 ((d (o + 13) 0) + (d (o + 6) i))) (o + 13) 1 ((d (o + 13) 1) + (d (o + 7) i))) (o + 13) 2 ((d (o + 13) 2) + (d (o + 8) i))
theorem f_drop_is {d : xd} {o n i q : Nat} : f_drop d o n i q = x_r (f_gap (f_dw d o i) o n i) (o + 10) (f_fill (f_fg (f_gap (f_dw d o i) o n i (o + 10)) (nI i)) (f_gap (f_dw d o i) o n i (o + 10)) q) := rfl
theorem f_dw_out {d : xd} {o i k : Nat} (h : k ≠ o + 13) : f_dw d o i k = d k := by
  unfold f_dw
  rw [x_p_ne h, x_p_ne h, x_p_ne h]
theorem f_gap_row {W : xd} {o n i w : Nat} (h2 : 2 ≤ w) (h8 : w ≤ 8) : f_gap W o n i (o + w) = va_cpy (W (o + w)) (W (o + w)) (i + 1) i (n - i - 1) := by
  have hw : w = 2 ∨ w = 3 ∨ w = 4 ∨ w = 5 ∨ w = 6 ∨ w = 7 ∨ w = 8 := by omega
  unfold f_gap
  rw [x_p_ne (by omega)]
  rcases hw with rfl | rfl | rfl | rfl | rfl | rfl | rfl
  · rw [x_r_ne2 (by omega), x_r_ne2 (by omega), x_r_ne2 (by omega), x_r_ne2 (by omega), x_r_ne2 (by omega), x_r_ne2 (by omega), x_r_same]
  · rw [x_r_ne2 (by omega), x_r_ne2 (by omega), x_r_ne2 (by omega), x_r_ne2 (by omega), x_r_ne2 (by omega), x_r_same]
  · rw [x_r_ne2 (by omega), x_r_ne2 (by omega), x_r_ne2 (by omega), x_r_ne2 (by omega), x_r_same]
  · rw [x_r_ne2 (by omega), x_r_ne2 (by omega), x_r_ne2 (by omega), x_r_same]
  · rw [x_r_ne2 (by omega), x_r_ne2 (by omega), x_r_same]
  · rw [x_r_ne2 (by omega), x_r_same]
  · rw [x_r_same]
theorem f_drop_row {d : xd} {o m i q w j : Nat} (h2 : 2 ≤ w) (h8 : w ≤ 8) (hj : j < m) (hi : i ≤ m) : f_drop d o (m + 1) i q (o + w) j = if j < i then d (o + w) j else d (o + w) (j + 1) := by
  rw [f_drop_is, x_r_ne2 (by omega), f_gap_row h2 h8, f_dw_out (by omega), va_gapc hj hi]
theorem f_drop_10 {d : xd} {o n i q k : Nat} (hk : k < q) : f_drop d o n i q (o + 10) k = f_fg (d (o + 10)) (nI i) k := by
  rw [f_drop_is, x_r_same, f_gap_out (by omega), f_dw_out (by omega)]
  unfold f_fill
  rw [if_pos hk]
theorem f_drop_out {d : xd} {o n i q k : Nat} (h : k < o + 1 ∨ o + 8 < k) (h10 : k ≠ o + 10) : f_drop d o n i q k = f_dw d o i k := by
  rw [f_drop_is, x_r_ne2 h10, f_gap_out h]
theorem f_drop_1 {d : xd} {o n i q : Nat} : f_drop d o n i q (o + 1) 0 = nI (n - 1) := by
  rw [f_drop_is, x_r_ne2 (by omega), f_gap_cnt]
theorem f_dw_13 {d : xd} {o i j : Nat} : f_dw d o i (o + 13) j = if j = 2 then d (o + 13) 2 + d (o + 8) i else if j = 1 then d (o + 13) 1 + d (o + 7) i else if j = 0 then d (o + 13) 0 + d (o + 6) i else d (o + 13) j := by
  unfold f_dw
  rw [x_prow, x_prow, x_prow]
  rfl
theorem g_rmv_l {z : Nat → Int32} {i n q w j : Nat} (hi : i < 8) (h6 : q ≤ 6) (hw : w < 7) (hj : j < 7) : g_rmv z i n q (6 + 8 * w + j) = if j < i then z (6 + 8 * w + j) else z (6 + 8 * w + j + 1) := by
  unfold g_rmv
  rw [x_upd_ne (by omega), g_fg_out _ (by omega), g_gaps_at _ hi 7 (Nat.le_refl 7) w hw j hj, if_pos hw]
  unfold g_bk
  rw [x_upd_ne (by omega), x_upd_ne (by omega), x_upd_ne (by omega), x_upd_ne (by omega), x_upd_ne (by omega), x_upd_ne (by omega)]
theorem g_rmv_h {z : Nat → Int32} {i n q j : Nat} (hj : 62 + q ≤ j) : g_rmv z i n q j = z j := by
  unfold g_rmv
  rw [x_upd_ne (by omega), g_fg_out _ (by omega), g_gaps_out _ (by omega) 7 (Nat.le_refl 7)]
  unfold g_bk
  rw [x_upd_ne (by omega), x_upd_ne (by omega), x_upd_ne (by omega)]
theorem g_rmv_m {z : Nat → Int32} {i n q k : Nat} (hk : k < q) : g_rmv z i n q (62 + k) = if z (62 + k) - 1 = nI i then 0 else if nI i < z (62 + k) - 1 then z (62 + k) - 1 else z (62 + k) - 1 + 1 := by
  unfold g_rmv
  rw [x_upd_ne (by omega)]
  unfold g_fg
  rw [if_pos (show 62 ≤ 62 + k ∧ 62 + k < 62 + q by omega), g_gaps_out _ (by omega) 7 (Nat.le_refl 7)]
  unfold g_bk
  rw [x_upd_ne (by omega), x_upd_ne (by omega), x_upd_ne (by omega)]
theorem g_rmv_b {z : Nat → Int32} {i n q j : Nat} (h0 : j ≠ 0) (hj : j < 6) : g_rmv z i n q j = g_bk z i j := by
  unfold g_rmv
  rw [x_upd_ne h0, g_fg_out _ (by omega), g_gaps_out _ (by omega) 7 (Nat.le_refl 7)]
theorem g_bk_2 {z : Nat → Int32} {i : Nat} : g_bk z i 2 = z 2 := by
  unfold g_bk
  rw [x_upd_ne (by omega), x_upd_ne (by omega), x_upd_ne (by omega)]
theorem g_bk_3 {z : Nat → Int32} {i : Nat} : g_bk z i 3 = z 3 + z (38 + i) := by
  unfold g_bk
  rw [x_upd_ne (by omega), x_upd_ne (by omega), x_upd_at]
theorem g_bk_4 {z : Nat → Int32} {i : Nat} : g_bk z i 4 = z 4 + z (46 + i) := by
  unfold g_bk
  rw [x_upd_ne (by omega), x_upd_at]
theorem g_bk_5 {z : Nat → Int32} {i : Nat} : g_bk z i 5 = z 5 + z (54 + i) := x_upd_at
theorem t_drop {B : Nat} {d : xd} {o m i q : Nat} {z : Nat → Int32} (h : r_T B d o z (m + 1) q) (hi : i < m + 1) (hp : ∃ a, a ≤ 99 ∧ d (o + 13) 1 + d (o + 7) i = nI a) (hB : B < 100000) : r_T B (f_drop d o (m + 1) i q) o (g_rmv z i (m + 1) q) m q := by
  obtain ⟨⟨e1, e2, e3, e4, e5, e6, e70, e71, e72, e73⟩, ⟨v1, v2, v3, v4, v5⟩, m9, bl⟩ := h
  have hi8 : i < 8 := by omega
  obtain ⟨i2, i3, i4, i5, i6, i7, i8⟩ := e5 i hi
  have G : ∀ w, w < 7 → ∀ j, j < m → g_rmv z i (m + 1) q (6 + 8 * w + j) = if j < i then z (6 + 8 * w + j) else z (6 + 8 * w + j + 1) := fun w hw j hj => g_rmv_l hi8 v2 hw (by omega)
  have F : ∀ w, 2 ≤ w → w ≤ 8 → ∀ j, j < m → f_drop d o (m + 1) i q (o + w) j = if j < i then d (o + w) j else d (o + w) (j + 1) := fun w h2 h8 j hj => f_drop_row h2 h8 hj (by omega)
  have O : ∀ k, k = o + 9 ∨ k = o + 11 ∨ k = o + 12 → f_drop d o (m + 1) i q k = d k := fun k hk => by rw [f_drop_out (by omega) (by omega), f_dw_out (by omega)]
  have P13 : ∀ j, f_drop d o (m + 1) i q (o + 13) j = if j = 2 then d (o + 13) 2 + d (o + 8) i else if j = 1 then d (o + 13) 1 + d (o + 7) i else if j = 0 then d (o + 13) 0 + d (o + 6) i else d (o + 13) j := fun j => by rw [f_drop_out (by omega) (by omega), f_dw_13]
  have M : ∀ k, k < q → f_drop d o (m + 1) i q (o + 10) k = g_rmv z i (m + 1) q (62 + k) - 1 ∧ (f_drop d o (m + 1) i q (o + 10) k = -1 ∨ ∃ w, w < m ∧ f_drop d o (m + 1) i q (o + 10) k = nI w) := by
    intro k hk
    obtain ⟨c1, -, -⟩ := v4 k hk
    rw [f_drop_10 hk, g_rmv_m hk, ← (e6 k hk).1]
    unfold f_fg
    by_cases y : d (o + 10) k = nI i
    · rw [if_pos y, if_pos y]
      exact ⟨by decide, Or.inl rfl⟩
    · rw [if_neg y, if_neg y]
      by_cases y2 : nI i < d (o + 10) k
      · rw [if_pos y2, if_pos y2]
        refine ⟨rfl, ?_⟩
        rcases c1 with c1 | ⟨w, hw, c1⟩
        · rw [c1] at y2
          exact absurd (Int32.lt_trans (s_m1 (a := i) (by omega)) y2) Int32.lt_irrefl
        · rw [c1] at y2 ⊢
          have y3 := (nI_ltI (by omega) (by omega)).mp y2
          exact Or.inr ⟨w - 1, by omega, pk_sub (a := w) (b := 1) (by omega)⟩
      · rw [if_neg y2, if_neg y2]
        refine ⟨by grind, ?_⟩
        rcases c1 with c1 | ⟨w, hw, c1⟩
        · exact Or.inl c1
        · rw [c1] at y2 y
          have y3 : ¬ i < w := fun q1 => y2 ((nI_ltI (by omega) (by omega)).mpr q1)
          have y4 : w ≠ i := fun q1 => y (by rw [q1])
          exact Or.inr ⟨w, by omega, c1⟩
  refine ⟨⟨?_, ?_, ?_, ?_, fun j hj => ?_, fun k hk => ?_, ?_⟩, ⟨by omega, v2, fun j hj => ?_, fun k hk => ?_, ?_⟩, ?_, ?_⟩
  · rw [f_drop_1]; rfl
  · unfold g_rmv; rw [x_upd_at]; rfl
  · rw [O _ (by omega)]; exact e3
  · rw [g_rmv_b (by omega) (by omega)]
    unfold g_bk
    rw [x_upd_ne (by omega), x_upd_ne (by omega), x_upd_ne (by omega)]
    exact e4
  · rw [F 2 (by omega) (by omega) j hj, F 3 (by omega) (by omega) j hj, F 4 (by omega) (by omega) j hj, F 5 (by omega) (by omega) j hj, F 6 (by omega) (by omega) j hj, F 7 (by omega) (by omega) j hj, F 8 (by omega) (by omega) j hj]
    have g0 := G 0 (by omega) j hj
    have g1 := G 1 (by omega) j hj
    have g2 := G 2 (by omega) j hj
    have g3 := G 3 (by omega) j hj
    have g4 := G 4 (by omega) j hj
    have g5 := G 5 (by omega) j hj
    have g6 := G 6 (by omega) j hj
    simp only [Nat.mul_zero, Nat.mul_one, Nat.add_zero, show 6 + 8 * 2 = 22 from rfl, show 6 + 8 * 3 = 30 from rfl, show 6 + 8 * 4 = 38 from rfl, show 6 + 8 * 5 = 46 from rfl, show 6 + 8 * 6 = 54 from rfl, show 6 + 8 = 14 from rfl] at g0 g1 g2 g3 g4 g5 g6
    rw [g0, g1, g2, g3, g4, g5, g6]
    by_cases y : j < i
    · rw [if_pos y, if_pos y, if_pos y, if_pos y, if_pos y, if_pos y, if_pos y, if_pos y, if_pos y, if_pos y, if_pos y, if_pos y, if_pos y, if_pos y]
      exact e5 j (by omega)
    · rw [if_neg y, if_neg y, if_neg y, if_neg y, if_neg y, if_neg y, if_neg y, if_neg y, if_neg y, if_neg y, if_neg y, if_neg y, if_neg y, if_neg y]
      exact e5 (j + 1) (by omega)
  · rw [O (o + 11) (by omega), O (o + 12) (by omega), g_rmv_h (j := 68 + k) (by omega), g_rmv_h (j := 74 + k) (by omega)]
    exact ⟨(M k hk).1, (e6 k hk).2⟩
  · rw [P13, P13, P13, P13, g_rmv_b (by omega) (by omega), g_rmv_b (by omega) (by omega), g_rmv_b (by omega) (by omega), g_rmv_b (by omega) (by omega)]
    rw [g_bk_2, g_bk_3, g_bk_4, g_bk_5]
    refine ⟨e70, ?_, ?_, ?_⟩
    · show d (o + 13) 0 + d (o + 6) i = _
      rw [e71, i6]
    · show d (o + 13) 1 + d (o + 7) i = _
      rw [e72, i7]
    · show d (o + 13) 2 + d (o + 8) i = _
      rw [e73, i8]
  · rw [F 2 (by omega) (by omega) j hj, F 3 (by omega) (by omega) j hj, F 4 (by omega) (by omega) j hj, F 6 (by omega) (by omega) j hj, F 7 (by omega) (by omega) j hj]
    by_cases y : j < i
    · rw [if_pos y, if_pos y, if_pos y, if_pos y, if_pos y]
      exact v3 j (by omega)
    · rw [if_neg y, if_neg y, if_neg y, if_neg y, if_neg y]
      exact v3 (j + 1) (by omega)
  · rw [O (o + 11) (by omega), O (o + 12) (by omega)]
    exact ⟨(M k hk).2, (v4 k hk).2⟩
  · rw [P13]; exact hp
  · obtain ⟨b, t, h1, h2, h3⟩ := m9
    have hg := f_sn_gap (f := b) (g := fun j => if j < i then b j else b (j + 1)) hi (fun j hj => if_pos hj) (fun j hj _ => if_neg (by omega))
    refine ⟨fun j => if j < i then b j else b (j + 1), t + b i, fun j hj => ?_, ?_, by omega⟩
    · show _ = nI (if j < i then b j else b (j + 1))
      rw [F 8 (by omega) (by omega) j hj]
      by_cases y : j < i
      · rw [if_pos y, if_pos y]; exact h1 j (by omega)
      · rw [if_neg y, if_neg y]; exact h1 (j + 1) (by omega)
    · rw [P13]
      show d (o + 13) 2 + d (o + 8) i = _
      rw [h2, h1 i hi, nI_add]
  · obtain ⟨b1, b2, b3⟩ := bl
    have s6 := f_sum_gap (f := d (o + 6)) (g := f_drop d o (m + 1) i q (o + 6)) hi (fun j hj => by rw [F 6 (by omega) (by omega) j (by omega), if_pos hj]) (fun j hj hj2 => by rw [F 6 (by omega) (by omega) j hj2, if_neg (by omega)])
    have s7 := f_sum_gap (f := d (o + 7)) (g := f_drop d o (m + 1) i q (o + 7)) hi (fun j hj => by rw [F 7 (by omega) (by omega) j (by omega), if_pos hj]) (fun j hj hj2 => by rw [F 7 (by omega) (by omega) j hj2, if_neg (by omega)])
    have s8 := f_sum_gap (f := d (o + 8)) (g := f_drop d o (m + 1) i q (o + 8)) hi (fun j hj => by rw [F 8 (by omega) (by omega) j (by omega), if_pos hj]) (fun j hj hj2 => by rw [F 8 (by omega) (by omega) j hj2, if_neg (by omega)])
    unfold f_bal
    simp only [P13]
    simp
    rw [← s6] at b1
    rw [← s7] at b2
    rw [← s8] at b3
    refine ⟨?_, ?_, ?_⟩
    · grind
    · grind
    · grind

