/-! the class's cells and the model's cells say the same: the whole of them -/
def y_H (B : Nat) (d : xd) : Prop := ∃ q z, d 43 1 = nI q ∧ q < 8 ∧ d 43 0 = nI z ∧ z ≤ 8 ∧ d 175 3 = nI z ∧ ∀ j, j < z → r_S B d (45 + 14 * ((q + 8 - z + j) % 8)) (fun i => d 178 (j * 80 + i))
def y_N (B : Nat) (d : xd) : Prop := (d 0 3 = 0 ∧ d 175 5 = 0) ∨ (¬ d 0 3 = 0 ∧ ¬ d 175 5 = 0 ∧ r_S B d 29 (d 179))
def y_X (d : xd) : Prop := ∃ (L : Nat) (tx : Nat → Nat), L ≤ 60 ∧ d 168 1 = nI L ∧ d 175 7 = nI L ∧ ∀ j, j < L → d 169 j = nI (tx j) ∧ d 180 j = nI (tx j) ∧ 32 ≤ tx j ∧ tx j ≤ 126
def y_L (d : xd) : Prop := ∃ ls : List Nat, n_l d ls ∧ m_l d ls ∧ ls.length ≤ 15 ∧ (∀ a ∈ ls, a < 128) ∧ d 173 1 = 0
def y_R (d : xd) : Prop := d 0 11 = d 175 8 ∧ d 0 12 = d 175 9
def y_Z (B : Nat) (d : xd) : Prop := r_S B d 1 (d 176) ∧ y_H B d ∧ y_N B d ∧ y_X d ∧ y_L d ∧ y_R d
/-- what a change of the state leaves alone -/
def y_G (d d2 : xd) : Prop := (∀ k, (k = 0 ∨ (29 ≤ k ∧ k ≤ 42) ∨ k = 169 ∨ k = 173 ∨ k = 174 ∨ (179 ≤ k ∧ k ≤ 181)) → d2 k = d k) ∧ d2 168 1 = d 168 1 ∧ (∀ j, (j = 5 ∨ j = 7 ∨ j = 8 ∨ j = 9 ∨ j = 11) → d2 175 j = d 175 j)
theorem y_G_refl (d : xd) : y_G d d := ⟨fun _ _ => rfl, rfl, fun _ _ => rfl⟩
theorem y_G_trans {d d1 d2 : xd} (h : y_G d d1) (h2 : y_G d1 d2) : y_G d d2 := ⟨fun k hk => (h2.1 k hk).trans (h.1 k hk), h2.2.1.trans h.2.1, fun j hj => (h2.2.2 j hj).trans (h.2.2 j hj)⟩
theorem y_N_G {B B2 : Nat} {d d2 : xd} (h : y_N B d) (g : y_G d d2) (hB : B ≤ B2) : y_N B2 d2 := by
  unfold y_N
  rw [g.1 0 (Or.inl rfl), g.2.2 5 (Or.inl rfl)]
  rcases h with h | ⟨h1, h2, h3⟩
  · exact Or.inl h
  · refine Or.inr ⟨h1, h2, r_S_like h3 (r_rows (fun k hk hk2 => g.1 k (Or.inr (Or.inl ⟨by omega, by omega⟩)))) (fun k _ => by rw [g.1 179 (by omega)]) hB⟩
theorem y_X_G {d d2 : xd} (h : y_X d) (g : y_G d d2) : y_X d2 := by
  obtain ⟨L, tx, h1, h2, h3, h4⟩ := h
  refine ⟨L, tx, h1, g.2.1.trans h2, (g.2.2 7 (by omega)).trans h3, fun j hj => ?_⟩
  rw [g.1 169 (by omega), g.1 180 (by omega)]
  exact h4 j hj
theorem y_L_G {d d2 : xd} (h : y_L d) (g : y_G d d2) : y_L d2 := by
  obtain ⟨ls, ⟨h1, h2⟩, ⟨h3, h4⟩, h5, h6, h7⟩ := h
  refine ⟨ls, ⟨?_, fun j hj => ?_⟩, ⟨(g.2.2 11 (by omega)).trans h3, fun j hj => ?_⟩, h5, h6, ?_⟩
  · rw [g.1 173 (by omega)]; exact h1
  · rw [g.1 174 (by omega)]; exact h2 j hj
  · rw [g.1 181 (by omega)]; exact h4 j hj
  · rw [g.1 173 (by omega)]; exact h7
theorem y_R_G {d d2 : xd} (h : y_R d) (g : y_G d d2) : y_R d2 := by
  unfold y_R
  rw [g.1 0 (by omega), g.2.2 8 (by omega), g.2.2 9 (by omega)]
  exact h
/-- what a question leaves alone -/
def y_F (d d2 : xd) : Prop := y_G d d2 ∧ (∀ k, (k < 15 ∨ k = 43 ∨ (45 ≤ k ∧ k ≤ 156) ∨ k = 176 ∨ k = 178) → d2 k = d k) ∧ d2 175 3 = d 175 3
theorem y_F_refl (d : xd) : y_F d d := ⟨y_G_refl d, fun _ _ => rfl, rfl⟩
theorem y_F_trans {d d1 d2 : xd} (h : y_F d d1) (h2 : y_F d1 d2) : y_F d d2 := ⟨y_G_trans h.1 h2.1, fun k hk => (h2.2.1 k hk).trans (h.2.1 k hk), h2.2.2.trans h.2.2⟩
theorem y_Z_F {B B2 : Nat} {d d2 : xd} (h : y_Z B d) (g : y_F d d2) (hB : B ≤ B2) : y_Z B2 d2 := by
  obtain ⟨h1, h2, h3, h4, h5, h6⟩ := h
  refine ⟨r_S_like h1 (r_rows (fun k hk hk2 => g.2.1 k (by omega))) (fun k _ => by rw [g.2.1 176 (by omega)]) hB, ?_, y_N_G h3 g.1 hB, y_X_G h4 g.1, y_L_G h5 g.1, y_R_G h6 g.1⟩
  obtain ⟨q, z, e1, e2, e3, e4, e5, e6⟩ := h2
  refine ⟨q, z, by rw [g.2.1 43 (by omega)]; exact e1, e2, by rw [g.2.1 43 (by omega)]; exact e3, e4, g.2.2.trans e5, fun j hj => ?_⟩
  exact r_S_like (e6 j hj) (r_rows (fun k hk hk2 => g.2.1 k (by omega))) (fun k _ => by rw [g.2.1 178 (by omega)]) hB
theorem y_Z_B {B B2 : Nat} {d : xd} (h : y_Z B d) (hB : B ≤ B2) : y_Z B2 d := y_Z_F h (y_F_refl d) hB
theorem g_th_ne {d : xd} {x : Int32} {k : Nat} (h : k ≠ 175) : g_th d x k = d k := x_p_ne h
theorem g_th_row {d : xd} {x : Int32} {j : Nat} (h : j ≠ 12) : g_th d x 175 j = d 175 j := x_p_row h
theorem g_th_at {d : xd} {x : Int32} : g_th d x 175 12 = x := x_p_at
theorem g_ok_ne {d : xd} {f : Nat → Int32} {k : Nat} (h : k ≠ 175) (h2 : k ≠ 176) : g_ok d f k = d k := (x_p_ne h).trans (x_r_ne2 h2)
theorem g_ok_176 {d : xd} {f : Nat → Int32} : g_ok d f 176 = f := (x_p_ne (by omega)).trans (x_r_same _ _ _)
theorem g_ok_row {d : xd} {f : Nat → Int32} {j : Nat} (h : j ≠ 12) : g_ok d f 175 j = d 175 j := (x_p_row h).trans (by rw [x_r_ne2 (by omega)])
theorem g_ok_12 {d : xd} {f : Nat → Int32} : g_ok d f 175 12 = 0 := x_p_at
/-- a question of the model, a refusal of it -/
theorem y_F_th (d : xd) (x : Int32) : y_F d (g_th d x) := by
  refine ⟨⟨fun k hk => g_th_ne (by omega), by rw [g_th_ne (by omega)], fun j hj => g_th_row (by omega)⟩, fun k hk => g_th_ne (by omega), g_th_row (by omega)⟩
theorem g_kf_same (d : xd) (x : Int32) : g_kf (g_th (g_bg d) x) 176 = d 176 := by
  unfold g_kf g_bg
  rw [x_r_same, g_th_ne (by omega), g_th_ne (by omega), x_r_same, x_r_ne2 (by omega)]
  funext j
  rcases Nat.lt_or_ge j 80 with h | h
  · rw [pk_cpy_in (by omega) (by omega), pk_cpy_in (by omega) (by omega)]
    exact congrArg (d 176) (by omega)
  · rw [pk_cpy_out (by omega)]
theorem y_F_kf (d : xd) (x : Int32) : y_F d (g_kf (g_th (g_bg d) x)) := by
  have e : ∀ k, k ≠ 175 → k ≠ 176 → k ≠ 177 → g_kf (g_th (g_bg d) x) k = d k := fun k h5 h6 h7 => by
    unfold g_kf g_bg
    rw [x_r_ne2 h6, g_th_ne h5, x_r_ne2 h7]
  have e5 : ∀ j, j ≠ 12 → g_kf (g_th (g_bg d) x) 175 j = d 175 j := fun j h => by
    unfold g_kf g_bg
    rw [x_r_ne2 (by omega), g_th_row h, x_r_ne2 (by omega)]
  refine ⟨⟨fun k hk => e k (by omega) (by omega) (by omega), by rw [e 168 (by omega) (by omega) (by omega)], fun j hj => e5 j (by omega)⟩, fun k hk => ?_, e5 3 (by omega)⟩
  by_cases h6 : k = 176
  · subst h6; exact g_kf_same d x
  · exact e k (by omega) h6 (by omega)
theorem g_kf_12 (d : xd) (x : Int32) : g_kf (g_th (g_bg d) x) 175 12 = x := by
  unfold g_kf
  rw [x_r_ne2 (by omega)]
  exact x_p_at
theorem g_kp_out {d : xd} {w k : Nat} (h : k ≠ 175) (h2 : k ≠ 178) : g_kp d w k = d k := by
  unfold g_kp
  split
  · unfold g_ks
    rw [x_p_ne h, x_r_ne2 h2, x_p_ne h, x_r_ne2 h2]
  · unfold g_kn
    rw [x_p_ne h, x_r_ne2 h2]
theorem g_kp_row {d : xd} {w j : Nat} (h : j ≠ 3) : g_kp d w 175 j = d 175 j := by
  unfold g_kp
  split
  · unfold g_ks
    rw [x_p_row h, x_r_ne2 (by omega), x_p_row h, x_r_ne2 (by omega)]
  · unfold g_kn
    rw [x_p_row h, x_r_ne2 (by omega)]
theorem g_kp_3 {d : xd} {w : Nat} (h : w ≤ 8) : g_kp d w 175 3 = nI (min (w + 1) 8) := by
  unfold g_kp
  split
  · rename_i e
    subst e
    unfold g_ks
    exact x_p_at
  · unfold g_kn
    rw [x_p_at, Nat.min_eq_left (by omega)]
/-- the model's past, kept: row i of it -/
theorem g_kp_178 {d : xd} {w i k : Nat} (h : w ≤ 8) (hk : k < 80) : (i < w → w < 8 → g_kp d w 178 (i * 80 + k) = d 178 (i * 80 + k)) ∧ (w = 8 → i < 7 → g_kp d w 178 (i * 80 + k) = d 178 ((i + 1) * 80 + k)) ∧ g_kp d w 178 (min w 7 * 80 + k) = d 177 k := by
  refine ⟨fun h1 h2 => ?_, fun h1 h2 => ?_, ?_⟩
  · unfold g_kp
    rw [if_neg (by omega)]
    unfold g_kn
    rw [x_p_ne (by omega), x_r_same, pk_cpy_out (by omega)]
  · subst h1
    unfold g_kp
    rw [if_pos rfl]
    unfold g_ks
    rw [x_p_ne (by omega), x_r_same, pk_cpy_out (by omega)]
    unfold g_sh
    simp only [f_fill]
    rw [if_pos (by omega)]
    exact congrArg (d 178) (by omega)
  · by_cases e : w = 8
    · subst e
      unfold g_kp
      rw [if_pos rfl]
      unfold g_ks
      rw [x_p_ne (by omega), x_r_same, pk_cpy_in (by omega) (by omega)]
      exact congrArg (d 177) (by omega)
    · unfold g_kp
      rw [if_neg e]
      unfold g_kn
      rw [x_p_ne (by omega), x_r_same, pk_cpy_in (by omega) (by omega)]
      exact congrArg (d 177) (by omega)
theorem f_rem_in {d : xd} {o q z k : Nat} (h : k ≠ 43) : f_rem d o q z k = f_cps d (45 + 14 * q) o k := by
  unfold f_rem
  rw [x_p_ne h, x_p_ne h]
theorem f_rem_43 {d : xd} {o q z : Nat} (q8 : q < 8) : f_rem d o q z 43 1 = nI ((q + 1) % 8) ∧ f_rem d o q z 43 0 = nI (min (z + 1) 8) := by
  unfold f_rem
  refine ⟨?_, x_p_at⟩
  rw [x_p_row (by omega)]
  exact x_p_at
/-- a change of both states that both sides keep the one before of -/
theorem y_op {B B2 : Nat} {d d1 : xd} {g : Nat → Int32} {q z : Nat} (h : y_Z B d) (hB : B ≤ B2) (hq : d 43 1 = nI q) (q8 : q < 8) (hz : d 43 0 = nI z) (z8 : z ≤ 8)
    (h0 : d1 0 = d 0) (h1 : ∀ k, (15 ≤ k ∧ k ≤ 156) ∨ 168 ≤ k → d1 k = f_rem d 1 q z k) (hs : r_S B2 d1 1 g) : y_Z B2 (g_kp (g_ok (g_bg d1) g) z) := by
  obtain ⟨a1, ⟨q2, z2, e1, e2, e3, e4, e5, e6⟩, a3, a4, a5, a6⟩ := h
  have hqq : q2 = q := (nI_eq (by omega) (by omega)).mp (e1.symm.trans hq)
  have hzz : z2 = z := (nI_eq (by omega) (by omega)).mp (e3.symm.trans hz)
  subst hqq
  subst hzz
  have k1 : ∀ k, k ≠ 175 → k ≠ 176 → k ≠ 177 → k ≠ 178 → g_kp (g_ok (g_bg d1) g) z2 k = d1 k := fun k h5 h6 h7 h8 => by
    rw [g_kp_out h5 h8, g_ok_ne h5 h6]
    unfold g_bg
    rw [x_r_ne2 h7]
  have k6 : g_kp (g_ok (g_bg d1) g) z2 176 = g := by rw [g_kp_out (by omega) (by omega), g_ok_176]
  have kg : y_G d (g_kp (g_ok (g_bg d1) g) z2) := by
    have o : ∀ k, (29 ≤ k ∧ k ≤ 42) ∨ k = 169 ∨ k = 173 ∨ k = 174 ∨ (179 ≤ k ∧ k ≤ 181) ∨ k = 168 → g_kp (g_ok (g_bg d1) g) z2 k = d k := fun k hk => by
      rw [k1 k (by omega) (by omega) (by omega) (by omega), h1 k (by omega), f_rem_out (by omega) q8]
    refine ⟨fun k hk => ?_, by rw [o 168 (by omega)], fun j hj => ?_⟩
    · rcases hk with rfl | hk
      · rw [k1 0 (by omega) (by omega) (by omega) (by omega), h0]
      · exact o k (by omega)
    · rw [g_kp_row (by omega), g_ok_row (by omega)]
      unfold g_bg
      rw [x_r_ne2 (by omega), h1 175 (by omega), f_rem_out (by omega) q8]
  refine ⟨?_, ?_, y_N_G a3 kg hB, y_X_G a4 kg, y_L_G a5 kg, y_R_G a6 kg⟩
  · rw [k6]
    exact r_S_like hs (r_rows (fun k hk hk2 => k1 k (by omega) (by omega) (by omega) (by omega))) (fun _ _ => rfl) (Nat.le_refl _)
  · have m1 : ∀ k, 43 ≤ k → k ≤ 156 → g_kp (g_ok (g_bg d1) g) z2 k = f_rem d 1 q2 z2 k := fun k hk hk2 => by
      rw [k1 k (by omega) (by omega) (by omega) (by omega), h1 k (by omega)]
    have m8 : g_ok (g_bg d1) g 178 = d 178 := by
      rw [g_ok_ne (by omega) (by omega)]
      unfold g_bg
      rw [x_r_ne2 (by omega), h1 178 (by omega), f_rem_out (by omega) q8]
    have m7 : ∀ k, k < 80 → g_ok (g_bg d1) g 177 k = d 176 k := fun k hk => by
      rw [g_ok_ne (by omega) (by omega)]
      unfold g_bg
      rw [x_r_same, pk_cpy_in (by omega) (by omega), h1 176 (by omega), f_rem_out (by omega) q8]
      exact congrArg (d 176) (by omega)
    refine ⟨(q2 + 1) % 8, min (z2 + 1) 8, by rw [m1 43 (by omega) (by omega)]; exact (f_rem_43 q8).1, by omega, by rw [m1 43 (by omega) (by omega)]; exact (f_rem_43 q8).2, by omega, g_kp_3 z8, fun j hj => ?_⟩
    by_cases hl : j = min z2 7
    · have hslot : ((q2 + 1) % 8 + 8 - min (z2 + 1) 8 + j) % 8 = q2 := by omega
      rw [hslot]
      have hl1 : r_like d 1 (g_kp (g_ok (g_bg d1) g) z2) (45 + 14 * q2) := by
        have c := r_copy (d := d) (o := 45 + 14 * q2) (o2 := 1) (by omega)
        obtain ⟨c1, c2, c3, c4, c5⟩ := c
        have mm : ∀ k, 45 + 14 * q2 + 1 ≤ k → k ≤ 45 + 14 * q2 + 13 → g_kp (g_ok (g_bg d1) g) z2 k = f_cps d (45 + 14 * q2) 1 k := fun k hk hk2 => by
          rw [m1 k (by omega) (by omega), f_rem_in (by omega)]
        refine ⟨by rw [mm _ (by omega) (by omega)]; exact c1, by rw [mm _ (by omega) (by omega)]; exact c2, fun i hi => ?_, fun k hk => ?_, fun i hi => ?_⟩
        · rw [mm (45 + 14 * q2 + 2) (by omega) (by omega), mm (45 + 14 * q2 + 3) (by omega) (by omega), mm (45 + 14 * q2 + 4) (by omega) (by omega), mm (45 + 14 * q2 + 5) (by omega) (by omega), mm (45 + 14 * q2 + 6) (by omega) (by omega), mm (45 + 14 * q2 + 7) (by omega) (by omega), mm (45 + 14 * q2 + 8) (by omega) (by omega)]
          exact c3 i hi
        · rw [mm (45 + 14 * q2 + 10) (by omega) (by omega), mm (45 + 14 * q2 + 11) (by omega) (by omega), mm (45 + 14 * q2 + 12) (by omega) (by omega)]
          exact c4 k hk
        · rw [mm (45 + 14 * q2 + 13) (by omega) (by omega)]
          exact c5 i hi
      refine r_S_like a1 hl1 (fun k hk => ?_) hB
      rw [hl, (g_kp_178 (i := 0) z8 hk).2.2, m7 k hk]
    · have hold : ∃ i, i < z2 ∧ (q2 + 8 - z2 + i) % 8 = ((q2 + 1) % 8 + 8 - min (z2 + 1) 8 + j) % 8 ∧ ((z2 < 8 ∧ i = j) ∨ (z2 = 8 ∧ i = j + 1)) := by
        by_cases e : z2 = 8
        · exact ⟨j + 1, by omega, by omega, Or.inr ⟨e, rfl⟩⟩
        · exact ⟨j, by omega, by omega, Or.inl ⟨by omega, rfl⟩⟩
      obtain ⟨i, hi, hsl, hij⟩ := hold
      have hne : ((q2 + 1) % 8 + 8 - min (z2 + 1) 8 + j) % 8 ≠ q2 := by omega
      rw [← hsl] at hne ⊢
      refine r_S_like (e6 i hi) (r_rows (fun k hk hk2 => ?_)) (fun k hk => ?_) hB
      · have hs8 : (q2 + 8 - z2 + i) % 8 < 8 := Nat.mod_lt _ (by omega)
        rw [m1 k (by omega) (by omega), f_rem_in (by omega), f_cps_out (by omega)]
      · rcases hij with ⟨u1, u2⟩ | ⟨u1, u2⟩
        · subst u2
          rw [(g_kp_178 z8 hk).1 hi u1, m8]
        · subst u2
          rw [(g_kp_178 z8 hk).2.1 u1 (by omega), m8]
theorem y_op_12 {d : xd} {g : Nat → Int32} {w : Nat} : g_kp (g_ok d g) w 175 12 = 0 := by
  rw [g_kp_row (by omega)]
  exact g_ok_12
/-- the state at 1 in the world that has it in the ring as well -/
theorem y_rem_like {d : xd} {q z : Nat} (q8 : q < 8) : r_like d 1 (f_rem d 1 q z) 1 := r_rows (fun _ _ hk2 => f_rem_out (by omega) q8)
theorem y_rem {B : Nat} {d : xd} {n w q z : Nat} {g : Nat → Int32} (h : r_T B d 1 g n w) (q8 : q < 8) : r_T B (f_rem d 1 q z) 1 g n w := r_T_like h (y_rem_like q8) (fun _ _ => rfl) (Nat.le_refl _)
