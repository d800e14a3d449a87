/-! what is left alone, part by part -/
section YC
variable {B B2 : Nat} {d d2 : xd}
theorem y_S1_c (h : r_S B d 1 (d 176)) (hk : ∀ k, 2 ≤ k → k ≤ 14 → d2 k = d k) (h6 : d2 176 = d 176) (hB : B ≤ B2) : r_S B2 d2 1 (d2 176) := r_S_like h (r_rows (fun k a b => hk k (by omega) (by omega))) (fun k _ => by rw [h6]) hB
theorem y_H_c (h : y_H B d) (h43 : d2 43 = d 43) (hr : ∀ k, 45 ≤ k → k ≤ 156 → d2 k = d k) (h178 : d2 178 = d 178) (h3 : d2 175 3 = d 175 3) (hB : B ≤ B2) : y_H B2 d2 := by
  obtain ⟨q, z, e1, e2, e3, e4, e5, e6⟩ := h
  refine ⟨q, z, by rw [h43]; exact e1, e2, by rw [h43]; exact e3, e4, h3.trans e5, fun j hj => ?_⟩
  have h8 : (q + 8 - z + j) % 8 < 8 := Nat.mod_lt _ (by omega)
  exact r_S_like (e6 j hj) (r_rows (fun k hk hk2 => hr k (by omega) (by omega))) (fun k _ => by rw [h178]) hB
theorem y_N_c (h : y_N B d) (h03 : d2 0 3 = d 0 3) (hr : ∀ k, 30 ≤ k → k ≤ 42 → d2 k = d k) (h179 : d2 179 = d 179) (h5 : d2 175 5 = d 175 5) (hB : B ≤ B2) : y_N B2 d2 := by
  unfold y_N
  rw [h03, h5]
  rcases h with h | ⟨h1, h2, h3⟩
  · exact Or.inl h
  · exact Or.inr ⟨h1, h2, r_S_like h3 (r_rows (fun k hk hk2 => hr k (by omega) (by omega))) (fun k _ => by rw [h179]) hB⟩
theorem y_X_c (h : y_X d) (h1 : d2 168 1 = d 168 1) (h9 : d2 169 = d 169) (h180 : d2 180 = d 180) (h7 : d2 175 7 = d 175 7) : y_X d2 := by
  obtain ⟨L, tx, e1, e2, e3, e4⟩ := h
  exact ⟨L, tx, e1, h1.trans e2, h7.trans e3, fun j hj => by rw [h9, h180]; exact e4 j hj⟩
theorem y_L_c (h : y_L d) (h3 : d2 173 3 = d 173 3) (h1 : d2 173 1 = d 173 1) (h174 : d2 174 = d 174) (h181 : d2 181 = d 181) (h11 : d2 175 11 = d 175 11) : y_L d2 := by
  obtain ⟨ls, ⟨e1, e2⟩, ⟨e3, e4⟩, e5, e6, e7⟩ := h
  exact ⟨ls, ⟨h3.trans e1, fun j hj => by rw [h174]; exact e2 j hj⟩, ⟨h11.trans e3, fun j hj => by rw [h181]; exact e4 j hj⟩, e5, e6, h1.trans e7⟩
theorem y_R_c (h : y_R d) (h11 : d2 0 11 = d 0 11) (h12 : d2 0 12 = d 0 12) (h8 : d2 175 8 = d 175 8) (h9 : d2 175 9 = d 175 9) : y_R d2 := by
  unfold y_R
  rw [h11, h12, h8, h9]
  exact h
end YC
theorem s_type {l : Launch} {B : Nat} {d : xd} (hfl : l.stackTraces = false) (h : y_Z B d) (hB : B + 180 < 100000) (a : Nat) (ha : a < 65536) : y_S l B d yX11_type wsX11_type (fun G => [.ref (x_b G + 0), .int (nI a)]) ["java/lang/IllegalArgumentException", "java/lang/IllegalStateException"] yX12_type wsX12_type (fun G => [.ref (x_b G + 175), .int (nI a)]) := by
  obtain ⟨n, w, q, z, t, hq, q8, hz, z8, hc⟩ := y_open h
  obtain ⟨⟨hn, hn2, hw, hw2, e5, e6, e7⟩, ⟨h8, h6, v3, v4, v5⟩, -, -⟩ := id t
  obtain ⟨L, tx, x1, x2, x3, x4⟩ := h.2.2.2.1
  by_cases hx : 32 ≤ nI a ∧ nI a ≤ 126
  · have hx3 : 32 ≤ a := (nI_leI (a := 32) (by omega) (by omega)).mp hx.1
    have hx4 : a ≤ 126 := (nI_leI (b := 126) (by omega) (by omega)).mp hx.2
    by_cases h6 : L = 60
    · subst h6
      exact s_qf h 2 (by decide) (by decide) (E := "java/lang/IllegalStateException") rfl (by decide) (by decide) (fun G => c_F_type_3 l hfl G d a ha hx x2) (x := 2) rfl (fun G => c_M_type_2 l G d (nI a) hx x3)
    · refine ⟨0, _, _, _, _, by omega, ⟨_, ?_, Or.inl ⟨rfl, fun G => c_F_type l G d a ha hx L x2 (by omega)⟩⟩, ⟨_, ?_, fun G => c_M_type l G _ a L hx ha (by rw [x_p_ne (by omega), x_p_ne (by omega)]; exact x3) (by omega)⟩, x_p_at, fun _ => rfl, ?_⟩
      · decide
      · decide
      · exact ⟨y_S1_c h.1 (fun k hk hk2 => by repeat (first | rw [x_p_ne (by omega)] | rw [x_p_row (by omega)] | rw [x_r_ne2 (by omega)] | rw [f_cps_out (by omega)])) (by repeat (first | rw [x_p_ne (by omega)] | rw [x_p_row (by omega)] | rw [x_r_ne2 (by omega)] | rw [f_cps_out (by omega)])) (by omega), y_H_c h.2.1 (by repeat (first | rw [x_p_ne (by omega)] | rw [x_p_row (by omega)] | rw [x_r_ne2 (by omega)] | rw [f_cps_out (by omega)])) (fun k hk hk2 => by repeat (first | rw [x_p_ne (by omega)] | rw [x_p_row (by omega)] | rw [x_r_ne2 (by omega)] | rw [f_cps_out (by omega)])) (by repeat (first | rw [x_p_ne (by omega)] | rw [x_p_row (by omega)] | rw [x_r_ne2 (by omega)] | rw [f_cps_out (by omega)])) (by repeat (first | rw [x_p_ne (by omega)] | rw [x_p_row (by omega)] | rw [x_r_ne2 (by omega)] | rw [f_cps_out (by omega)])) (by omega), y_N_c h.2.2.1 (by repeat (first | rw [x_p_ne (by omega)] | rw [x_p_row (by omega)] | rw [x_r_ne2 (by omega)] | rw [f_cps_out (by omega)])) (fun k hk hk2 => by repeat (first | rw [x_p_ne (by omega)] | rw [x_p_row (by omega)] | rw [x_r_ne2 (by omega)] | rw [f_cps_out (by omega)])) (by repeat (first | rw [x_p_ne (by omega)] | rw [x_p_row (by omega)] | rw [x_r_ne2 (by omega)] | rw [f_cps_out (by omega)])) (by repeat (first | rw [x_p_ne (by omega)] | rw [x_p_row (by omega)] | rw [x_r_ne2 (by omega)] | rw [f_cps_out (by omega)])) (by omega), ⟨L + 1, fun j => if j = L then a else tx j, by omega, by repeat (first | rw [x_p_at] | rw [x_p_ne (by omega)]), by repeat (first | rw [x_p_at] | rw [x_p_row (by omega)]), fun j hj => by
        have e9 : (x_p (x_p (x_p (x_p (x_p d 169 L (nI a)) 168 1 (nI (L + 1))) 180 L (nI a)) 175 7 (nI (L + 1))) 175 12 0 : xd) 169 j = x_p d 169 L (nI a) 169 j := by rw [x_p_ne (by omega), x_p_ne (by omega), x_p_ne (by omega), x_p_ne (by omega)]
        have e0 : (x_p (x_p (x_p (x_p (x_p d 169 L (nI a)) 168 1 (nI (L + 1))) 180 L (nI a)) 175 7 (nI (L + 1))) 175 12 0 : xd) 180 j = x_p (x_p (x_p d 169 L (nI a)) 168 1 (nI (L + 1))) 180 L (nI a) 180 j := by rw [x_p_ne (by omega), x_p_ne (by omega)]
        rw [e9, e0]
        by_cases hjL : j = L
        · subst hjL
          rw [x_p_at, x_p_at]
          show nI a = nI (if j = j then a else tx j) ∧ nI a = nI (if j = j then a else tx j) ∧ 32 ≤ (if j = j then a else tx j) ∧ (if j = j then a else tx j) ≤ 126
          rw [if_pos rfl]
          exact ⟨rfl, rfl, hx3, hx4⟩
        · rw [x_p_row hjL, x_p_row hjL, x_p_ne (by omega), x_p_ne (by omega)]
          show d 169 j = nI (if j = L then a else tx j) ∧ d 180 j = nI (if j = L then a else tx j) ∧ 32 ≤ (if j = L then a else tx j) ∧ (if j = L then a else tx j) ≤ 126
          rw [if_neg hjL]
          exact x4 j (by omega)⟩, y_L_c h.2.2.2.2.1 (by repeat (first | rw [x_p_ne (by omega)] | rw [x_p_row (by omega)] | rw [x_r_ne2 (by omega)] | rw [f_cps_out (by omega)])) (by repeat (first | rw [x_p_ne (by omega)] | rw [x_p_row (by omega)] | rw [x_r_ne2 (by omega)] | rw [f_cps_out (by omega)])) (by repeat (first | rw [x_p_ne (by omega)] | rw [x_p_row (by omega)] | rw [x_r_ne2 (by omega)] | rw [f_cps_out (by omega)])) (by repeat (first | rw [x_p_ne (by omega)] | rw [x_p_row (by omega)] | rw [x_r_ne2 (by omega)] | rw [f_cps_out (by omega)])) (by repeat (first | rw [x_p_ne (by omega)] | rw [x_p_row (by omega)] | rw [x_r_ne2 (by omega)] | rw [f_cps_out (by omega)])), y_R_c h.2.2.2.2.2 (by repeat (first | rw [x_p_ne (by omega)] | rw [x_p_row (by omega)] | rw [x_r_ne2 (by omega)] | rw [f_cps_out (by omega)])) (by repeat (first | rw [x_p_ne (by omega)] | rw [x_p_row (by omega)] | rw [x_r_ne2 (by omega)] | rw [f_cps_out (by omega)])) (by repeat (first | rw [x_p_ne (by omega)] | rw [x_p_row (by omega)] | rw [x_r_ne2 (by omega)] | rw [f_cps_out (by omega)])) (by repeat (first | rw [x_p_ne (by omega)] | rw [x_p_row (by omega)] | rw [x_r_ne2 (by omega)] | rw [f_cps_out (by omega)]))⟩
  · exact s_qf h 1 (by decide) (by decide) (E := "java/lang/IllegalArgumentException") rfl (by decide) (by decide) (fun G => c_F_type_2 l hfl G d a ha hx) (x := 1) rfl (fun G => c_M_type_1 l G d (nI a) hx)
theorem s_undo {l : Launch} {B : Nat} {d : xd} (hfl : l.stackTraces = false) (h : y_Z B d) (hB : B + 180 < 100000) : y_S l B d yX11_undo wsX11_undo (fun G => [.ref (x_b G + 0)]) ["java/lang/IllegalStateException"] yX12_undo wsX12_undo (fun G => [.ref (x_b G + 175)]) := by
  obtain ⟨n, w, q, z, t, hq, q8, hz, z8, hc⟩ := y_open h
  obtain ⟨⟨hn, hn2, hw, hw2, e5, e6, e7⟩, ⟨h8, h6, v3, v4, v5⟩, -, -⟩ := id t
  obtain ⟨q2, z2, f1, f2, f3, f4, f5, f6⟩ := h.2.1
  have hqq : q2 = q := (nI_eq (by omega) (by omega)).mp (f1.symm.trans hq)
  have hzz : z2 = z := (nI_eq (by omega) (by omega)).mp (f3.symm.trans hz)
  subst hqq
  subst hzz
  rcases Nat.eq_zero_or_pos z2 with h0 | h1
  · subst h0
    exact s_qf h 1 (by decide) (by decide) (E := "java/lang/IllegalStateException") rfl (by decide) (by decide) (fun G => c_F_undo_3 l hfl G d hz) (x := 1) rfl (fun G => c_M_undo_1 l G d hc)
  · obtain ⟨z2, rfl⟩ : ∃ j, z2 = j + 1 := ⟨z2 - 1, by omega⟩
    have hm8 : (q2 + 7) % 8 < 8 := Nat.mod_lt _ (by omega)
    have o1 : ∀ k, k ≠ 43 → (k < 2 ∨ 14 < k) → f_tkb d 1 q2 (z2 + 1) k = d k := fun k hk hk2 => by
      unfold f_tkb
      rw [x_p_ne hk, f_cps_out (by omega), x_p_ne hk]
    have o2 : f_tkb d 1 q2 (z2 + 1) 43 1 = nI ((q2 + 7) % 8) ∧ f_tkb d 1 q2 (z2 + 1) 43 0 = nI z2 := by
      unfold f_tkb
      refine ⟨?_, by rw [x_p_at]; rfl⟩
      rw [x_p_row (by omega), f_cps_out (by omega), x_p_at]
    have o3 : r_like d (45 + 14 * ((q2 + 7) % 8)) (f_tkb d 1 q2 (z2 + 1)) 1 := by
      have c := r_copy (d := x_p d 43 1 (nI ((q2 + 7) % 8))) (o := 1) (o2 := 45 + 14 * ((q2 + 7) % 8)) (by omega)
      obtain ⟨c1, c2, c3, c4, c5⟩ := c
      have mm : ∀ k, k ≤ 14 → f_tkb d 1 q2 (z2 + 1) k = f_cps (x_p d 43 1 (nI ((q2 + 7) % 8))) 1 (45 + 14 * ((q2 + 7) % 8)) k := fun k hk => by
        unfold f_tkb
        rw [x_p_ne (by omega)]
      have dd : ∀ k, 45 + 14 * ((q2 + 7) % 8) < k → x_p d 43 1 (nI ((q2 + 7) % 8)) k = d k := fun k hk => x_p_ne (by omega)
      refine ⟨?_, ?_, fun i hi => ?_, fun k hk => ?_, fun i hi => ?_⟩
      · rw [mm _ (by omega)]; exact c1.trans (by rw [dd _ (by omega)])
      · rw [mm _ (by omega)]; exact c2.trans (by rw [dd _ (by omega)])
      · have c3 := c3 i hi
        rw [dd _ (by omega), dd _ (by omega), dd _ (by omega), dd _ (by omega), dd _ (by omega), dd _ (by omega), dd _ (by omega)] at c3
        rw [mm (1 + 2) (by omega), mm (1 + 3) (by omega), mm (1 + 4) (by omega), mm (1 + 5) (by omega), mm (1 + 6) (by omega), mm (1 + 7) (by omega), mm (1 + 8) (by omega)]
        exact c3
      · have c4 := c4 k hk
        rw [dd _ (by omega), dd _ (by omega), dd _ (by omega)] at c4
        rw [mm (1 + 10) (by omega), mm (1 + 11) (by omega), mm (1 + 12) (by omega)]
        exact c4
      · rw [mm (1 + 13) (by omega)]; exact (c5 i hi).trans (by rw [dd _ (by omega)])
    refine ⟨0, _, _, _, _, by omega, ⟨_, ?_, Or.inl ⟨rfl, fun G => c_F_undo l G d q2 (z2 + 1) hq hz q8 z8 h1⟩⟩, ⟨_, ?_, fun G => c_M_undo l G _ z2 (by rw [o1 175 (by omega) (by omega)]; exact hc) (by omega)⟩, x_p_at, fun _ => rfl, ?_⟩
    · decide
    · decide
    · have p1 : ∀ k, k ≠ 175 → k ≠ 176 → ∀ f v, x_p (x_r (x_p (f_tkb d 1 q2 (z2 + 1)) 175 3 (nI z2)) 176 f) 175 12 v k = f_tkb d 1 q2 (z2 + 1) k := fun k h5 h6 f v => by rw [x_p_ne h5, x_r_ne2 h6, x_p_ne h5]
      have p5 : ∀ j, j ≠ 3 → j ≠ 12 → ∀ f v, x_p (x_r (x_p (f_tkb d 1 q2 (z2 + 1)) 175 3 (nI z2)) 176 f) 175 12 v 175 j = d 175 j := fun j h3 h12 f v => by rw [x_p_row h12, x_r_ne2 (by omega), x_p_row h3, o1 175 (by omega) (by omega)]
      refine ⟨?_, ?_, ?_, ?_, ?_, ?_⟩
      · have hs := f6 z2 (by omega)
        rw [show (q2 + 8 - (z2 + 1) + z2) % 8 = (q2 + 7) % 8 from by omega] at hs
        refine r_S_like (r_S_like hs o3 (fun _ _ => rfl) (Nat.le_refl _)) (r_rows (fun k hk hk2 => p1 k (by omega) (by omega) _ _)) (fun k hk => ?_) (by omega)
        rw [x_p_ne (by omega), x_r_same, pk_cpy_in (by omega) (by omega), o1 178 (by omega) (by omega)]
        exact congrArg (d 178) (by omega)
      · refine ⟨(q2 + 7) % 8, z2, by rw [p1 43 (by omega) (by omega)]; exact o2.1, by omega, by rw [p1 43 (by omega) (by omega)]; exact o2.2, by omega, by rw [x_p_row (by omega), x_r_ne2 (by omega), x_p_at], fun j hj => ?_⟩
        have hs := f6 j (by omega)
        rw [show (q2 + 8 - (z2 + 1) + j) % 8 = ((q2 + 7) % 8 + 8 - z2 + j) % 8 from by omega] at hs
        refine r_S_like hs (r_rows (fun k hk hk2 => ?_)) (fun k hk => ?_) (by omega)
        · rw [p1 k (by omega) (by omega), o1 k (by omega) (by omega)]
        · rw [p1 178 (by omega) (by omega), o1 178 (by omega) (by omega)]
      · exact y_N_c h.2.2.1 (by rw [p1 0 (by omega) (by omega), o1 0 (by omega) (by omega)]) (fun k hk hk2 => by rw [p1 k (by omega) (by omega), o1 k (by omega) (by omega)]) (by rw [p1 179 (by omega) (by omega), o1 179 (by omega) (by omega)]) (p5 5 (by omega) (by omega) _ _) (by omega)
      · exact y_X_c h.2.2.2.1 (by rw [p1 168 (by omega) (by omega), o1 168 (by omega) (by omega)]) (by rw [p1 169 (by omega) (by omega), o1 169 (by omega) (by omega)]) (by rw [p1 180 (by omega) (by omega), o1 180 (by omega) (by omega)]) (p5 7 (by omega) (by omega) _ _)
      · exact y_L_c h.2.2.2.2.1 (by rw [p1 173 (by omega) (by omega), o1 173 (by omega) (by omega)]) (by rw [p1 173 (by omega) (by omega), o1 173 (by omega) (by omega)]) (by rw [p1 174 (by omega) (by omega), o1 174 (by omega) (by omega)]) (by rw [p1 181 (by omega) (by omega), o1 181 (by omega) (by omega)]) (p5 11 (by omega) (by omega) _ _)
      · exact y_R_c h.2.2.2.2.2 (by rw [p1 0 (by omega) (by omega), o1 0 (by omega) (by omega)]) (by rw [p1 0 (by omega) (by omega), o1 0 (by omega) (by omega)]) (p5 8 (by omega) (by omega) _ _) (p5 9 (by omega) (by omega) _ _)
theorem s_restore {l : Launch} {B : Nat} {d : xd} (hfl : l.stackTraces = false) (h : y_Z B d) (hB : B + 180 < 100000) : y_S l B d yX11_restore wsX11_restore (fun G => [.ref (x_b G + 0)]) ["java/lang/IllegalStateException"] yX12_restore wsX12_restore (fun G => [.ref (x_b G + 175)]) := by
  obtain ⟨n, w, q, z, t, hq, q8, hz, z8, hc⟩ := y_open h
  obtain ⟨⟨hn, hn2, hw, hw2, e5, e6, e7⟩, ⟨h8, h6, v3, v4, v5⟩, -, -⟩ := id t
  rcases h.2.2.1 with ⟨s1, s2⟩ | ⟨s1, s2, s3⟩
  · exact s_qf h 1 (by decide) (by decide) (E := "java/lang/IllegalStateException") rfl (by decide) (by decide) (fun G => c_F_restore_3 l hfl G d s1) (x := 1) rfl (fun G => c_M_restore_1 l G d s2)
  · have hs3 : d 30 0 = d 179 0 := by
      obtain ⟨n9, w9, r9⟩ := s3
      exact r9.1.1.trans r9.1.2.1.symm
    refine ⟨0, _, _, _, _, by omega, ⟨_, ?_, Or.inl ⟨rfl, fun G => c_F_restore l G d s1⟩⟩, ⟨_, ?_, fun G => c_M_restore l G _ (by rw [x_p_ne (by omega), f_cps_out (by omega)]; exact s2)⟩, x_p_at, fun _ => ?_, ?_⟩
    · decide
    · decide
    · rw [x_p_ne (by omega), f_cps_out (by omega)]; exact hs3
    · have c := r_copy (d := d) (o := 1) (o2 := 29) (by omega)
      refine ⟨r_S_like (r_S_like s3 c (fun _ _ => rfl) (Nat.le_refl _)) (r_rows (fun k hk hk2 => by rw [x_p_ne (by omega), x_p_ne (by omega), x_r_ne2 (by omega), x_p_ne (by omega)])) (fun k hk => ?_) (by omega), ⟨q, 0, ?_, q8, ?_, by omega, ?_, fun j hj => absurd hj (Nat.not_lt_zero j)⟩, y_N_c h.2.2.1 (by repeat (first | rw [x_p_ne (by omega)] | rw [x_p_row (by omega)] | rw [x_r_ne2 (by omega)] | rw [f_cps_out (by omega)])) (fun k hk hk2 => by repeat (first | rw [x_p_ne (by omega)] | rw [x_p_row (by omega)] | rw [x_r_ne2 (by omega)] | rw [f_cps_out (by omega)])) (by repeat (first | rw [x_p_ne (by omega)] | rw [x_p_row (by omega)] | rw [x_r_ne2 (by omega)] | rw [f_cps_out (by omega)])) (by repeat (first | rw [x_p_ne (by omega)] | rw [x_p_row (by omega)] | rw [x_r_ne2 (by omega)] | rw [f_cps_out (by omega)])) (by omega), y_X_c h.2.2.2.1 (by repeat (first | rw [x_p_ne (by omega)] | rw [x_p_row (by omega)] | rw [x_r_ne2 (by omega)] | rw [f_cps_out (by omega)])) (by repeat (first | rw [x_p_ne (by omega)] | rw [x_p_row (by omega)] | rw [x_r_ne2 (by omega)] | rw [f_cps_out (by omega)])) (by repeat (first | rw [x_p_ne (by omega)] | rw [x_p_row (by omega)] | rw [x_r_ne2 (by omega)] | rw [f_cps_out (by omega)])) (by repeat (first | rw [x_p_ne (by omega)] | rw [x_p_row (by omega)] | rw [x_r_ne2 (by omega)] | rw [f_cps_out (by omega)])), y_L_c h.2.2.2.2.1 (by repeat (first | rw [x_p_ne (by omega)] | rw [x_p_row (by omega)] | rw [x_r_ne2 (by omega)] | rw [f_cps_out (by omega)])) (by repeat (first | rw [x_p_ne (by omega)] | rw [x_p_row (by omega)] | rw [x_r_ne2 (by omega)] | rw [f_cps_out (by omega)])) (by repeat (first | rw [x_p_ne (by omega)] | rw [x_p_row (by omega)] | rw [x_r_ne2 (by omega)] | rw [f_cps_out (by omega)])) (by repeat (first | rw [x_p_ne (by omega)] | rw [x_p_row (by omega)] | rw [x_r_ne2 (by omega)] | rw [f_cps_out (by omega)])) (by repeat (first | rw [x_p_ne (by omega)] | rw [x_p_row (by omega)] | rw [x_r_ne2 (by omega)] | rw [f_cps_out (by omega)])), y_R_c h.2.2.2.2.2 (by repeat (first | rw [x_p_ne (by omega)] | rw [x_p_row (by omega)] | rw [x_r_ne2 (by omega)] | rw [f_cps_out (by omega)])) (by repeat (first | rw [x_p_ne (by omega)] | rw [x_p_row (by omega)] | rw [x_r_ne2 (by omega)] | rw [f_cps_out (by omega)])) (by repeat (first | rw [x_p_ne (by omega)] | rw [x_p_row (by omega)] | rw [x_r_ne2 (by omega)] | rw [f_cps_out (by omega)])) (by repeat (first | rw [x_p_ne (by omega)] | rw [x_p_row (by omega)] | rw [x_r_ne2 (by omega)] | rw [f_cps_out (by omega)]))⟩
      · rw [x_p_ne (by omega), x_p_ne (by omega), x_r_same, pk_cpy_in (by omega) (by omega), x_p_ne (by omega), f_cps_out (by omega)]
        exact congrArg (d 179) (by omega)
      · rw [x_p_ne (by omega), x_p_ne (by omega), x_r_ne2 (by omega), x_p_row (by omega), f_cps_out (by omega)]; exact hq
      · rw [x_p_ne (by omega), x_p_ne (by omega), x_r_ne2 (by omega), x_p_at]; rfl
      · rw [x_p_row (by omega), x_p_at]; rfl
theorem w_line_on {l : Launch} {d : xd} {k i n a b v w : Nat} (hk : d 173 3 = nI k) (hk9 : k ≤ 15) (hco : d 173 1 = 0) (hn : d 2 0 = nI n) (h8 : n ≤ 8) (hi : i < n) (ha : d 3 i = nI a) (hb : d 5 i = nI b) (hv : d 7 i = nI v) (hw : d 8 i = nI w) (ha1 : a < 100) (hb1 : b < 100) (hv1 : v < 100) (hw1 : w < 100) (hon : ¬ x_bz (d 6 i) = 0) :
    ∃ D : xd, (∀ G, x_M G l yX11_writeLamp wsX11_writeLamp 4 0 0 [.ref (x_b G + 0), .int (nI i)] d (some (.int (nI (n_ln i a b v w ++ if false = true then [33] else []).length))) D) ∧ n_l D (n_ln i a b v w ++ if false = true then [33] else []) ∧ D 173 1 = 0 ∧ ∀ j, j ≠ 173 → j ≠ 174 → D j = d j := by
  have hd : n_dg i = [48 + i] := if_pos (by omega)
  have hls : n_ln i a b v w ++ (if false = true then [33] else []) = n_dg i ++ [58] ++ n_dg a ++ [42] ++ n_dg b ++ [111] ++ n_dg v ++ [119] ++ n_dg w := by
    unfold n_ln
    rw [hd]
    simp
  obtain ⟨D0, e0⟩ : ∃ D, D = f_sl0 d k := ⟨_, rfl⟩
  obtain ⟨D1, e1⟩ : ∃ D, D = f_ai D0 ([] : List Nat).length i := ⟨_, rfl⟩
  obtain ⟨D2, e2⟩ : ∃ D, D = f_ac D1 (n_dg i : List Nat).length 58 := ⟨_, rfl⟩
  obtain ⟨D3, e3⟩ : ∃ D, D = f_ai D2 (n_dg i ++ [58] : List Nat).length a := ⟨_, rfl⟩
  obtain ⟨D4, e4⟩ : ∃ D, D = f_ac D3 (n_dg i ++ [58] ++ n_dg a : List Nat).length 42 := ⟨_, rfl⟩
  obtain ⟨D5, e5⟩ : ∃ D, D = f_ai D4 (n_dg i ++ [58] ++ n_dg a ++ [42] : List Nat).length b := ⟨_, rfl⟩
  obtain ⟨D6, e6⟩ : ∃ D, D = f_ac D5 (n_dg i ++ [58] ++ n_dg a ++ [42] ++ n_dg b : List Nat).length 111 := ⟨_, rfl⟩
  obtain ⟨D7, e7⟩ : ∃ D, D = f_ai D6 (n_dg i ++ [58] ++ n_dg a ++ [42] ++ n_dg b ++ [111] : List Nat).length v := ⟨_, rfl⟩
  obtain ⟨D8, e8⟩ : ∃ D, D = f_ac D7 (n_dg i ++ [58] ++ n_dg a ++ [42] ++ n_dg b ++ [111] ++ n_dg v : List Nat).length 119 := ⟨_, rfl⟩
  obtain ⟨D9, e9⟩ : ∃ D, D = f_ai D8 (n_dg i ++ [58] ++ n_dg a ++ [42] ++ n_dg b ++ [111] ++ n_dg v ++ [119] : List Nat).length w := ⟨_, rfl⟩
  have n0 : n_l D0 [] := by rw [e0]; exact n_sl
  have r0 : ∀ j, j ≠ 173 → j ≠ 174 → D0 j = d j := fun j hj _ => by rw [e0, f_sl0_out hj]
  have c0 : D0 173 1 = 0 := by rw [e0, f_sl0_1]; exact hco
  have n1 : n_l D1 (n_dg i) := by rw [e1]; exact n_ai n0
  have r1 : ∀ j, j ≠ 173 → j ≠ 174 → D1 j = d j := fun j hj hj2 => by rw [e1, f_ai_out hj hj2]; exact r0 j hj hj2
  have c1 : D1 173 1 = 0 := by rw [e1, f_ai_1]; exact c0
  have n2 : n_l D2 (n_dg i ++ [58]) := by rw [e2]; exact n_ac n1
  have r2 : ∀ j, j ≠ 173 → j ≠ 174 → D2 j = d j := fun j hj hj2 => by rw [e2, f_ac_out hj hj2]; exact r1 j hj hj2
  have c2 : D2 173 1 = 0 := by rw [e2, f_ac_1]; exact c1
  have n3 : n_l D3 (n_dg i ++ [58] ++ n_dg a) := by rw [e3]; exact n_ai n2
  have r3 : ∀ j, j ≠ 173 → j ≠ 174 → D3 j = d j := fun j hj hj2 => by rw [e3, f_ai_out hj hj2]; exact r2 j hj hj2
  have c3 : D3 173 1 = 0 := by rw [e3, f_ai_1]; exact c2
  have n4 : n_l D4 (n_dg i ++ [58] ++ n_dg a ++ [42]) := by rw [e4]; exact n_ac n3
  have r4 : ∀ j, j ≠ 173 → j ≠ 174 → D4 j = d j := fun j hj hj2 => by rw [e4, f_ac_out hj hj2]; exact r3 j hj hj2
  have c4 : D4 173 1 = 0 := by rw [e4, f_ac_1]; exact c3
  have n5 : n_l D5 (n_dg i ++ [58] ++ n_dg a ++ [42] ++ n_dg b) := by rw [e5]; exact n_ai n4
  have r5 : ∀ j, j ≠ 173 → j ≠ 174 → D5 j = d j := fun j hj hj2 => by rw [e5, f_ai_out hj hj2]; exact r4 j hj hj2
  have c5 : D5 173 1 = 0 := by rw [e5, f_ai_1]; exact c4
  have n6 : n_l D6 (n_dg i ++ [58] ++ n_dg a ++ [42] ++ n_dg b ++ [111]) := by rw [e6]; exact n_ac n5
  have r6 : ∀ j, j ≠ 173 → j ≠ 174 → D6 j = d j := fun j hj hj2 => by rw [e6, f_ac_out hj hj2]; exact r5 j hj hj2
  have c6 : D6 173 1 = 0 := by rw [e6, f_ac_1]; exact c5
  have n7 : n_l D7 (n_dg i ++ [58] ++ n_dg a ++ [42] ++ n_dg b ++ [111] ++ n_dg v) := by rw [e7]; exact n_ai n6
  have r7 : ∀ j, j ≠ 173 → j ≠ 174 → D7 j = d j := fun j hj hj2 => by rw [e7, f_ai_out hj hj2]; exact r6 j hj hj2
  have c7 : D7 173 1 = 0 := by rw [e7, f_ai_1]; exact c6
  have n8 : n_l D8 (n_dg i ++ [58] ++ n_dg a ++ [42] ++ n_dg b ++ [111] ++ n_dg v ++ [119]) := by rw [e8]; exact n_ac n7
  have r8 : ∀ j, j ≠ 173 → j ≠ 174 → D8 j = d j := fun j hj hj2 => by rw [e8, f_ac_out hj hj2]; exact r7 j hj hj2
  have c8 : D8 173 1 = 0 := by rw [e8, f_ac_1]; exact c7
  have n9 : n_l D9 (n_dg i ++ [58] ++ n_dg a ++ [42] ++ n_dg b ++ [111] ++ n_dg v ++ [119] ++ n_dg w) := by rw [e9]; exact n_ai n8
  have r9 : ∀ j, j ≠ 173 → j ≠ 174 → D9 j = d j := fun j hj hj2 => by rw [e9, f_ai_out hj hj2]; exact r8 j hj hj2
  have c9 : D9 173 1 = 0 := by rw [e9, f_ai_1]; exact c8
  refine ⟨D9, fun G => ?_, by rw [hls]; exact n9, c9, r9⟩
  rw [hls]
  exact c_F_writeLamp_on l G d k hk hk9 hco i n hn h8 hi a b v w ha hb hv hw ha1 hb1 hv1 hw1 hon D0 D1 D2 D3 D4 D5 D6 D7 D8 D9 e0 e1 e2 e3 e4 e5 e6 e7 e8 e9
theorem w_line_off {l : Launch} {d : xd} {k i n a b v w : Nat} (hk : d 173 3 = nI k) (hk9 : k ≤ 15) (hco : d 173 1 = 0) (hn : d 2 0 = nI n) (h8 : n ≤ 8) (hi : i < n) (ha : d 3 i = nI a) (hb : d 5 i = nI b) (hv : d 7 i = nI v) (hw : d 8 i = nI w) (ha1 : a < 100) (hb1 : b < 100) (hv1 : v < 100) (hw1 : w < 100) (hon : x_bz (d 6 i) = 0) :
    ∃ D : xd, (∀ G, x_M G l yX11_writeLamp wsX11_writeLamp 4 0 0 [.ref (x_b G + 0), .int (nI i)] d (some (.int (nI (n_ln i a b v w ++ if true = true then [33] else []).length))) D) ∧ n_l D (n_ln i a b v w ++ if true = true then [33] else []) ∧ D 173 1 = 0 ∧ ∀ j, j ≠ 173 → j ≠ 174 → D j = d j := by
  have hd : n_dg i = [48 + i] := if_pos (by omega)
  have hls : n_ln i a b v w ++ (if true = true then [33] else []) = n_dg i ++ [58] ++ n_dg a ++ [42] ++ n_dg b ++ [111] ++ n_dg v ++ [119] ++ n_dg w ++ [33] := by
    unfold n_ln
    rw [hd]
    simp
  obtain ⟨D0, e0⟩ : ∃ D, D = f_sl0 d k := ⟨_, rfl⟩
  obtain ⟨D1, e1⟩ : ∃ D, D = f_ai D0 ([] : List Nat).length i := ⟨_, rfl⟩
  obtain ⟨D2, e2⟩ : ∃ D, D = f_ac D1 (n_dg i : List Nat).length 58 := ⟨_, rfl⟩
  obtain ⟨D3, e3⟩ : ∃ D, D = f_ai D2 (n_dg i ++ [58] : List Nat).length a := ⟨_, rfl⟩
  obtain ⟨D4, e4⟩ : ∃ D, D = f_ac D3 (n_dg i ++ [58] ++ n_dg a : List Nat).length 42 := ⟨_, rfl⟩
  obtain ⟨D5, e5⟩ : ∃ D, D = f_ai D4 (n_dg i ++ [58] ++ n_dg a ++ [42] : List Nat).length b := ⟨_, rfl⟩
  obtain ⟨D6, e6⟩ : ∃ D, D = f_ac D5 (n_dg i ++ [58] ++ n_dg a ++ [42] ++ n_dg b : List Nat).length 111 := ⟨_, rfl⟩
  obtain ⟨D7, e7⟩ : ∃ D, D = f_ai D6 (n_dg i ++ [58] ++ n_dg a ++ [42] ++ n_dg b ++ [111] : List Nat).length v := ⟨_, rfl⟩
  obtain ⟨D8, e8⟩ : ∃ D, D = f_ac D7 (n_dg i ++ [58] ++ n_dg a ++ [42] ++ n_dg b ++ [111] ++ n_dg v : List Nat).length 119 := ⟨_, rfl⟩
  obtain ⟨D9, e9⟩ : ∃ D, D = f_ai D8 (n_dg i ++ [58] ++ n_dg a ++ [42] ++ n_dg b ++ [111] ++ n_dg v ++ [119] : List Nat).length w := ⟨_, rfl⟩
  obtain ⟨D10, e10⟩ : ∃ D, D = f_ac D9 (n_dg i ++ [58] ++ n_dg a ++ [42] ++ n_dg b ++ [111] ++ n_dg v ++ [119] ++ n_dg w : List Nat).length 33 := ⟨_, rfl⟩
  have n0 : n_l D0 [] := by rw [e0]; exact n_sl
  have r0 : ∀ j, j ≠ 173 → j ≠ 174 → D0 j = d j := fun j hj _ => by rw [e0, f_sl0_out hj]
  have c0 : D0 173 1 = 0 := by rw [e0, f_sl0_1]; exact hco
  have n1 : n_l D1 (n_dg i) := by rw [e1]; exact n_ai n0
  have r1 : ∀ j, j ≠ 173 → j ≠ 174 → D1 j = d j := fun j hj hj2 => by rw [e1, f_ai_out hj hj2]; exact r0 j hj hj2
  have c1 : D1 173 1 = 0 := by rw [e1, f_ai_1]; exact c0
  have n2 : n_l D2 (n_dg i ++ [58]) := by rw [e2]; exact n_ac n1
  have r2 : ∀ j, j ≠ 173 → j ≠ 174 → D2 j = d j := fun j hj hj2 => by rw [e2, f_ac_out hj hj2]; exact r1 j hj hj2
  have c2 : D2 173 1 = 0 := by rw [e2, f_ac_1]; exact c1
  have n3 : n_l D3 (n_dg i ++ [58] ++ n_dg a) := by rw [e3]; exact n_ai n2
  have r3 : ∀ j, j ≠ 173 → j ≠ 174 → D3 j = d j := fun j hj hj2 => by rw [e3, f_ai_out hj hj2]; exact r2 j hj hj2
  have c3 : D3 173 1 = 0 := by rw [e3, f_ai_1]; exact c2
  have n4 : n_l D4 (n_dg i ++ [58] ++ n_dg a ++ [42]) := by rw [e4]; exact n_ac n3
  have r4 : ∀ j, j ≠ 173 → j ≠ 174 → D4 j = d j := fun j hj hj2 => by rw [e4, f_ac_out hj hj2]; exact r3 j hj hj2
  have c4 : D4 173 1 = 0 := by rw [e4, f_ac_1]; exact c3
  have n5 : n_l D5 (n_dg i ++ [58] ++ n_dg a ++ [42] ++ n_dg b) := by rw [e5]; exact n_ai n4
  have r5 : ∀ j, j ≠ 173 → j ≠ 174 → D5 j = d j := fun j hj hj2 => by rw [e5, f_ai_out hj hj2]; exact r4 j hj hj2
  have c5 : D5 173 1 = 0 := by rw [e5, f_ai_1]; exact c4
  have n6 : n_l D6 (n_dg i ++ [58] ++ n_dg a ++ [42] ++ n_dg b ++ [111]) := by rw [e6]; exact n_ac n5
  have r6 : ∀ j, j ≠ 173 → j ≠ 174 → D6 j = d j := fun j hj hj2 => by rw [e6, f_ac_out hj hj2]; exact r5 j hj hj2
  have c6 : D6 173 1 = 0 := by rw [e6, f_ac_1]; exact c5
  have n7 : n_l D7 (n_dg i ++ [58] ++ n_dg a ++ [42] ++ n_dg b ++ [111] ++ n_dg v) := by rw [e7]; exact n_ai n6
  have r7 : ∀ j, j ≠ 173 → j ≠ 174 → D7 j = d j := fun j hj hj2 => by rw [e7, f_ai_out hj hj2]; exact r6 j hj hj2
  have c7 : D7 173 1 = 0 := by rw [e7, f_ai_1]; exact c6
  have n8 : n_l D8 (n_dg i ++ [58] ++ n_dg a ++ [42] ++ n_dg b ++ [111] ++ n_dg v ++ [119]) := by rw [e8]; exact n_ac n7
  have r8 : ∀ j, j ≠ 173 → j ≠ 174 → D8 j = d j := fun j hj hj2 => by rw [e8, f_ac_out hj hj2]; exact r7 j hj hj2
  have c8 : D8 173 1 = 0 := by rw [e8, f_ac_1]; exact c7
  have n9 : n_l D9 (n_dg i ++ [58] ++ n_dg a ++ [42] ++ n_dg b ++ [111] ++ n_dg v ++ [119] ++ n_dg w) := by rw [e9]; exact n_ai n8
  have r9 : ∀ j, j ≠ 173 → j ≠ 174 → D9 j = d j := fun j hj hj2 => by rw [e9, f_ai_out hj hj2]; exact r8 j hj hj2
  have c9 : D9 173 1 = 0 := by rw [e9, f_ai_1]; exact c8
  have n10 : n_l D10 (n_dg i ++ [58] ++ n_dg a ++ [42] ++ n_dg b ++ [111] ++ n_dg v ++ [119] ++ n_dg w ++ [33]) := by rw [e10]; exact n_ac n9
  have r10 : ∀ j, j ≠ 173 → j ≠ 174 → D10 j = d j := fun j hj hj2 => by rw [e10, f_ac_out hj hj2]; exact r9 j hj hj2
  have c10 : D10 173 1 = 0 := by rw [e10, f_ac_1]; exact c9
  refine ⟨D10, fun G => ?_, by rw [hls]; exact n10, c10, r10⟩
  rw [hls]
  exact c_F_writeLamp_off l G d k hk hk9 hco i n hn h8 hi a b v w ha hb hv hw ha1 hb1 hv1 hw1 hon D0 D1 D2 D3 D4 D5 D6 D7 D8 D9 D10 e0 e1 e2 e3 e4 e5 e6 e7 e8 e9 e10
theorem y_w1_out {d : xd} {k a j : Nat} (h5 : j ≠ 175) (h1 : j ≠ 181) : g_w1 d k a j = d j := by
  unfold g_w1
  rw [x_p_ne h5, x_p_ne h1]
theorem y_w1_row {d : xd} {k a j : Nat} (h : j ≠ 11) : g_w1 d k a 175 j = d 175 j := by
  unfold g_w1
  rw [x_p_row h, x_p_ne (by omega)]
theorem y_w2_out {d : xd} {k a v j : Nat} (h5 : j ≠ 175) (h1 : j ≠ 181) : g_w2 d k a v j = d j := by
  unfold g_w2
  split
  · rw [y_w1_out h5 h1, y_w1_out h5 h1]
  · rw [y_w1_out h5 h1, y_w1_out h5 h1, y_w1_out h5 h1]
theorem y_w2_row {d : xd} {k a v j : Nat} (h : j ≠ 11) : g_w2 d k a v 175 j = d 175 j := by
  unfold g_w2
  split
  · rw [y_w1_row h, y_w1_row h]
  · rw [y_w1_row h, y_w1_row h, y_w1_row h]
theorem y_we_out {d : xd} {i a b v w j : Nat} {off : Bool} (h5 : j ≠ 175) (h1 : j ≠ 181) : g_we d i a b v w off j = d j := by
  have e : g_wd d i a b v w j = d j := by
    unfold g_wd
    rw [y_w2_out h5 h1, y_w2_out h5 h1, y_w2_out h5 h1, y_w2_out h5 h1, y_w1_out h5 h1, x_p_ne h5]
  unfold g_we
  split
  · rw [y_w1_out h5 h1, e]
  · exact e
theorem y_we_row {d : xd} {i a b v w j : Nat} {off : Bool} (h : j ≠ 11) : g_we d i a b v w off 175 j = d 175 j := by
  have e : g_wd d i a b v w 175 j = d 175 j := by
    unfold g_wd
    rw [y_w2_row h, y_w2_row h, y_w2_row h, y_w2_row h, y_w1_row h, x_p_row h]
  unfold g_we
  split
  · rw [y_w1_row h, e]
  · exact e
/-- the line written by both -/
theorem y_line {B : Nat} {d D : xd} {i a b v w : Nat} {off : Bool} (h : y_Z B d) (hi : i < 10) (ha : a < 100) (hb : b < 100) (hv : v < 100) (hw : w < 100) (h1 : n_l D (n_ln i a b v w ++ if off = true then [33] else [])) (h2 : D 173 1 = 0) (h3 : ∀ j, j ≠ 173 → j ≠ 174 → D j = d j) : y_Z (B + 180) (g_th (g_we D i a b v w off) 0) := by
  have o1 : ∀ k, k ≠ 173 → k ≠ 174 → k ≠ 175 → k ≠ 181 → g_th (g_we D i a b v w off) 0 k = d k := fun k k3 k4 k5 k1 => by rw [g_th_ne k5, y_we_out k5 k1, h3 k k3 k4]
  have o5 : ∀ j, j ≠ 11 → j ≠ 12 → g_th (g_we D i a b v w off) 0 175 j = d 175 j := fun j j1 j2 => by rw [g_th_row j2, y_we_row j1, h3 175 (by omega) (by omega)]
  refine ⟨y_S1_c h.1 (fun k hk hk2 => o1 k (by omega) (by omega) (by omega) (by omega)) (o1 176 (by omega) (by omega) (by omega) (by omega)) (by omega), y_H_c h.2.1 (o1 43 (by omega) (by omega) (by omega) (by omega)) (fun k hk hk2 => o1 k (by omega) (by omega) (by omega) (by omega)) (o1 178 (by omega) (by omega) (by omega) (by omega)) (o5 3 (by omega) (by omega)) (by omega),
    y_N_c h.2.2.1 (by rw [o1 0 (by omega) (by omega) (by omega) (by omega)]) (fun k hk hk2 => o1 k (by omega) (by omega) (by omega) (by omega)) (o1 179 (by omega) (by omega) (by omega) (by omega)) (o5 5 (by omega) (by omega)) (by omega),
    y_X_c h.2.2.2.1 (by rw [o1 168 (by omega) (by omega) (by omega) (by omega)]) (o1 169 (by omega) (by omega) (by omega) (by omega)) (o1 180 (by omega) (by omega) (by omega) (by omega)) (o5 7 (by omega) (by omega)), ?_,
    y_R_c h.2.2.2.2.2 (by rw [o1 0 (by omega) (by omega) (by omega) (by omega)]) (by rw [o1 0 (by omega) (by omega) (by omega) (by omega)]) (o5 8 (by omega) (by omega)) (o5 9 (by omega) (by omega))⟩
  have m := (m_we (d := D) (i := i) (a := a) (b := b) (v := v) (w := w) (off := off)).1
  refine ⟨_, ⟨?_, fun j hj => ?_⟩, ⟨?_, fun j hj => ?_⟩, Nat.le_trans n_ln_len (by omega), n_ln_lt hi ha hb hv hw (off := off), ?_⟩
  · rw [g_th_ne (by omega), y_we_out (by omega) (by omega)]; exact h1.1
  · rw [g_th_ne (by omega), y_we_out (by omega) (by omega)]; exact h1.2 j hj
  · rw [g_th_row (by omega)]; exact m.1
  · rw [g_th_ne (by omega)]; exact m.2 j hj
  · rw [g_th_ne (by omega), y_we_out (by omega) (by omega)]; exact h2
theorem s_writeLamp {l : Launch} {B : Nat} {d : xd} (hfl : l.stackTraces = false) (h : y_Z B d) (hB : B + 180 < 100000) (x : Int32) : y_S l B d yX11_writeLamp wsX11_writeLamp (fun G => [.ref (x_b G + 0), .int x]) ["java/lang/IndexOutOfBoundsException"] yX12_writeLamp wsX12_writeLamp (fun G => [.ref (x_b G + 175), .int x]) := by
  obtain ⟨n, w, q, z, t, hq, q8, hz, z8, hc⟩ := y_open h
  obtain ⟨⟨hn, hn2, hw, hw2, e5, e6, e7⟩, ⟨h8, h6, v3, v4, v5⟩, -, -⟩ := id t
  obtain ⟨ls, ⟨l1, l2⟩, ⟨l3, l4⟩, l5, l6, l7⟩ := h.2.2.2.2.1
  by_cases hx : 0 ≤ x ∧ x < nI n
  · obtain ⟨i, hi, rfl⟩ := o_ix (by omega) hx
    obtain ⟨⟨a, a1, ha⟩, -, ⟨b, b1, b2, hb⟩, ⟨v, v1, hv⟩, ⟨u, u1, hu⟩⟩ := v3 i hi
    have ha : d 3 i = nI a := ha
    have hb : d 5 i = nI b := hb
    have hv : d 7 i = nI v := hv
    have hu : d 8 i = nI u := hu
    have ha2 : d 176 (6 + i) = nI a := (e5 i hi).1.symm.trans ha
    have hb2 : d 176 (22 + i) = nI b := (e5 i hi).2.2.1.symm.trans hb
    have hv2 : d 176 (38 + i) = nI v := (e5 i hi).2.2.2.2.1.symm.trans hv
    have hu2 : d 176 (46 + i) = nI u := (e5 i hi).2.2.2.2.2.1.symm.trans hu
    rcases (e5 i hi).2.2.2.1 with ⟨hon, hm⟩ | ⟨hon, hm⟩
    · obtain ⟨D, D1, D2, D3, D4⟩ := w_line_on (l := l) l1 l5 l7 hn h8 hi ha hb hv hu (by omega) (by omega) (by omega) (by omega) hon
      have D5 : D 176 = d 176 := D4 176 (by omega) (by omega)
      refine ⟨0, _, _, D, _, by omega, ⟨_, ?_, Or.inl ⟨rfl, D1⟩⟩, ⟨_, ?_, fun G => c_M_writeLamp_on l G D i n (by rw [D5]; exact hn2) h8 hi a b v u (by rw [D5]; exact ha2) (by rw [D5]; exact hb2) (by rw [D5]; exact hv2) (by rw [D5]; exact hu2) (by omega) (by omega) (by omega) (by omega) (by rw [D5]; exact (by rw [hm]; decide))⟩, x_p_at, fun _ => ?_, y_line h (by omega) (by omega) (by omega) (by omega) (by omega) D2 D3 D4⟩
      · decide
      · decide
      · rw [(m_we (d := D) (i := i) (a := a) (b := b) (v := v) (w := u) (off := false)).2]
    · obtain ⟨D, D1, D2, D3, D4⟩ := w_line_off (l := l) l1 l5 l7 hn h8 hi ha hb hv hu (by omega) (by omega) (by omega) (by omega) hon
      have D5 : D 176 = d 176 := D4 176 (by omega) (by omega)
      refine ⟨0, _, _, D, _, by omega, ⟨_, ?_, Or.inl ⟨rfl, D1⟩⟩, ⟨_, ?_, fun G => c_M_writeLamp_off l G D i n (by rw [D5]; exact hn2) h8 hi a b v u (by rw [D5]; exact ha2) (by rw [D5]; exact hb2) (by rw [D5]; exact hv2) (by rw [D5]; exact hu2) (by omega) (by omega) (by omega) (by omega) (by rw [D5]; exact hm)⟩, x_p_at, fun _ => ?_, y_line h (by omega) (by omega) (by omega) (by omega) (by omega) D2 D3 D4⟩
      · decide
      · decide
      · rw [(m_we (d := D) (i := i) (a := a) (b := b) (v := v) (w := u) (off := true)).2]
  · exact s_qf h 1 (by decide) (by decide) (E := "java/lang/IndexOutOfBoundsException") rfl (by decide) (by decide) (fun G => c_F_writeLamp_1 l hfl G d x n hn hx) (x := 1) rfl (fun G => c_M_writeLamp_1 l G d x n hn2 h8 hx)
def y_SD (l : Launch) (B : Nat) (d : xd) (y : MethodName) (ws : List Cond) (av : xG → List Value) (Es : List String) (y2 : MethodName) (ws2 : List Cond) (av2 : xG → List Value) : Prop :=
  ∃ (k : Nat) (r b : UInt64) (d1 d2 : xd), k ≤ 3 ∧ y_C l y ws av Es k (.double r) d d1 ∧ (∃ lv, lv ≤ 10 ∧ ∀ G, x_M G l y2 ws2 lv 0 0 (av2 G) d1 (some (.double b)) d2) ∧ d2 175 12 = nI k ∧ (k = 0 → r = b ∧ ∃ a n, a < 481 ∧ n < 9 ∧ 1 ≤ n ∧ r = x_mn a n) ∧ y_Z (B + 180) d2
theorem s_meanOil {l : Launch} {B : Nat} {d : xd} (hfl : l.stackTraces = false) (h : y_Z B d) (hB : B + 180 < 100000) : y_SD l B d yX11_meanOil wsX11_meanOil (fun G => [.ref (x_b G + 0)]) ["java/lang/ArithmeticException"] yX12_meanOil wsX12_meanOil (fun G => [.ref (x_b G + 175)]) := by
  obtain ⟨n, w, q, z, t, hq, q8, hz, z8, hc⟩ := y_open h
  obtain ⟨⟨hn, hn2, hw, hw2, e5, e6, e7⟩, ⟨h8, h6, v3, v4, v5⟩, -, -⟩ := id t
  rcases Nat.eq_zero_or_pos n with h0 | h1
  · subst h0
    exact ⟨1, 0, _, d, _, by omega, ⟨_, by decide, Or.inr ⟨"java/lang/ArithmeticException", by omega, rfl, fun G => c_F_meanOil_5 l hfl G d hn⟩⟩, ⟨_, by decide, fun G => c_M_meanOil_1 l G d hn2⟩, x_p_at, fun y => absurd y (by decide), y_Z_F h (y_F_th d 1) (by omega)⟩
  · obtain ⟨f, hf⟩ : ∃ f : Nat → Nat, ∀ j, j < n → d 7 j = nI (f j) ∧ f j ≤ 60 := by
      have hx : ∀ j, j < n → ∃ a, d 7 j = nI a ∧ a ≤ 60 := fun j hj => by
        obtain ⟨-, -, -, ⟨v, v1, hv⟩, -⟩ := v3 j hj
        exact ⟨v, hv, v1⟩
      refine ⟨fun j => if hj : j < n then (hx j hj).choose else 0, fun j hj => ?_⟩
      show _ = nI (if hj : j < n then (hx j hj).choose else 0) ∧ (if hj : j < n then (hx j hj).choose else 0) ≤ 60
      rw [dif_pos hj]
      exact (hx j hj).choose_spec
    have hsum : f_sum (d 7) n = nI (f_sn f n) := x_sumN n (fun j hj => (hf j hj).1)
    have hb : f_sn f n ≤ 60 * n := by
      have : ∀ m, m ≤ n → f_sn f m ≤ 60 * m := by
        intro m hm
        induction m with
        | zero => exact Nat.le_refl 0
        | succ m ih =>
          have a1 := ih (by omega)
          have a2 := (hf m (by omega)).2
          rw [f_sn]
          omega
      exact this n (Nat.le_refl n)
    have hsum2 : f_sum (g_row (d 176) 38) n = nI (f_sn f n) := by
      rw [← hsum]
      exact o_sum (fun i hi => (e5 i hi).2.2.2.2.1.symm)
    exact ⟨0, _, _, d, _, by omega, ⟨_, by decide, Or.inl ⟨rfl, fun G => c_F_meanOil l G d n hn h8 h1 (f_sn f n) (by omega) hsum⟩⟩, ⟨_, by decide, fun G => c_M_meanOil l G d n hn2 h8 h1 (f_sn f n) (by omega) hsum2⟩, x_p_at, fun _ => ⟨rfl, f_sn f n, n, by omega, by omega, h1, rfl⟩, y_Z_F h (y_F_th d 0) (by omega)⟩
theorem s_burnNight {l : Launch} {B : Nat} {d : xd} (h : y_Z B d) (hB : B + 180 < 100000) : y_D l B d yX11_burnNight wsX11_burnNight yX12_burnNight wsX12_burnNight := by
  obtain ⟨n, w, q, z, t, hq, q8, hz, z8, hc⟩ := y_open h
  obtain ⟨⟨hn, hn2, hw, hw2, e5, e6, e7⟩, ⟨h8, h6, v3, v4, v5⟩, -, bl⟩ := id t
  have hfr : y_fr (f_rem d 1 q z) (f_night (f_rem d 1 q z) 1 n w) := fun k hk => by
    unfold f_night f_n3
    rw [x_p_ne (by omega), f_ps_out (by omega), f_dis_out (by omega), f_ma_out (by omega) (by omega) (by omega) (by omega), f_brn_out (by omega) (by omega) (by omega) (by omega)]
  obtain ⟨e6', e5'⟩ := y_at q8 hfr
  obtain ⟨⟨w2, tn⟩, hcb⟩ := t_night (y_rem (z := z) t q8) (by omega) (by omega)
  have hcr : ∀ k, k < w → d 176 (62 + k) - 1 = -1 ∨ ∃ j, j < n ∧ d 176 (62 + k) - 1 = nI j := fun k hk => by
    rw [← (e6 k hk).1]
    exact (v4 k hk).1
  exact s_d (by decide) (by decide) (fun G => c_F_burnNight l G d q z hq hz q8 z8 n hn h8 w hw h6) (fun G => c_M_burnNight l G _ z (by rw [e5']; exact hc) z8 n (by rw [e6']; exact hn2) h8 w (by rw [e6']; exact hw2) h6 (fun k hk => by rw [e6']; exact hcr k hk)) (by rw [e6']; exact hcb) (y_opZ h hq q8 hz z8 hfr (by rw [e6']; exact y_up tn (by omega)))
theorem s_isBalanced {l : Launch} {B : Nat} {d : xd} (h : y_Z B d) (hB : B + 180 < 100000) : y_D l B d yX11_isBalanced wsX11_isBalanced yX12_isBalanced wsX12_isBalanced := by
  obtain ⟨n, w, q, z, t, hq, q8, hz, z8, hc⟩ := y_open h
  obtain ⟨⟨hn, hn2, hw, hw2, e5, e6, e7⟩, ⟨h8, h6, v3, v4, v5⟩, -, bl⟩ := id t
  rcases Nat.eq_zero_or_pos n with h0 | h1
  · subst h0
    exact s_d (by decide) (by decide) (fun G => c_F_isBalanced l G d 0 hn h8 bl d (c_F_agree_0 l G d hn)) (fun G => c_M_isBalanced l G d) rfl (y_Z_F h (y_F_th d 0) (by omega))
  · obtain ⟨m, rfl⟩ : ∃ j, n = j + 1 := ⟨n - 1, by omega⟩
    obtain ⟨sh, s1, s2, s3⟩ := r_sh t.2.1
    exact s_d (by decide) (by decide) (fun G => c_F_isBalanced l G d (m + 1) hn h8 bl _ (c_F_agree l G d m hn h8 sh s1 s2 (s3 (by omega)))) (fun G => c_M_isBalanced l G _) rfl (y_Z_F h (y_F_trans (y_F_out (fun k hk => f_ag_out (by omega) 21)) (y_F_th _ 0)) (by omega))
theorem s_save {l : Launch} {B : Nat} {d : xd} (h : y_Z B d) (hB : B + 180 < 100000) : y_D l B d yX11_save wsX11_save yX12_save wsX12_save := by
  obtain ⟨n, w, q, z, t, hq, q8, hz, z8, hc⟩ := y_open h
  obtain ⟨⟨hn, hn2, hw, hw2, e5, e6, e7⟩, ⟨h8, h6, v3, v4, v5⟩, -, bl⟩ := id t
  refine s_d (by decide) (by decide) (fun G => c_F_save l G d) (fun G => c_M_save l G _) ?_ ?_
  · rw [x_p_ne (by omega), f_cps_out (by omega)]; exact hn.trans hn2.symm
  · have c := r_copy (d := d) (o := 29) (o2 := 1) (by omega)
    refine ⟨y_S1_c h.1 (fun k hk hk2 => by repeat (first | rw [x_p_ne (by omega)] | rw [x_p_row (by omega)] | rw [x_r_ne2 (by omega)] | rw [f_cps_out (by omega)])) (by repeat (first | rw [x_p_ne (by omega)] | rw [x_p_row (by omega)] | rw [x_r_ne2 (by omega)] | rw [f_cps_out (by omega)])) (by omega), y_H_c h.2.1 (by repeat (first | rw [x_p_ne (by omega)] | rw [x_p_row (by omega)] | rw [x_r_ne2 (by omega)] | rw [f_cps_out (by omega)])) (fun k hk hk2 => by repeat (first | rw [x_p_ne (by omega)] | rw [x_p_row (by omega)] | rw [x_r_ne2 (by omega)] | rw [f_cps_out (by omega)])) (by repeat (first | rw [x_p_ne (by omega)] | rw [x_p_row (by omega)] | rw [x_r_ne2 (by omega)] | rw [f_cps_out (by omega)])) (by repeat (first | rw [x_p_ne (by omega)] | rw [x_p_row (by omega)] | rw [x_r_ne2 (by omega)] | rw [f_cps_out (by omega)])) (by omega), Or.inr ⟨?_, ?_, r_S_like (r_S_like h.1 c (fun _ _ => rfl) (Nat.le_refl _)) (r_rows (fun k hk hk2 => by rw [x_p_ne (by omega), x_p_ne (by omega), x_r_ne2 (by omega), x_p_ne (by omega)])) (fun k hk => ?_) (by omega)⟩, y_X_c h.2.2.2.1 (by repeat (first | rw [x_p_ne (by omega)] | rw [x_p_row (by omega)] | rw [x_r_ne2 (by omega)] | rw [f_cps_out (by omega)])) (by repeat (first | rw [x_p_ne (by omega)] | rw [x_p_row (by omega)] | rw [x_r_ne2 (by omega)] | rw [f_cps_out (by omega)])) (by repeat (first | rw [x_p_ne (by omega)] | rw [x_p_row (by omega)] | rw [x_r_ne2 (by omega)] | rw [f_cps_out (by omega)])) (by repeat (first | rw [x_p_ne (by omega)] | rw [x_p_row (by omega)] | rw [x_r_ne2 (by omega)] | rw [f_cps_out (by omega)])), y_L_c h.2.2.2.2.1 (by repeat (first | rw [x_p_ne (by omega)] | rw [x_p_row (by omega)] | rw [x_r_ne2 (by omega)] | rw [f_cps_out (by omega)])) (by repeat (first | rw [x_p_ne (by omega)] | rw [x_p_row (by omega)] | rw [x_r_ne2 (by omega)] | rw [f_cps_out (by omega)])) (by repeat (first | rw [x_p_ne (by omega)] | rw [x_p_row (by omega)] | rw [x_r_ne2 (by omega)] | rw [f_cps_out (by omega)])) (by repeat (first | rw [x_p_ne (by omega)] | rw [x_p_row (by omega)] | rw [x_r_ne2 (by omega)] | rw [f_cps_out (by omega)])) (by repeat (first | rw [x_p_ne (by omega)] | rw [x_p_row (by omega)] | rw [x_r_ne2 (by omega)] | rw [f_cps_out (by omega)])), y_R_c h.2.2.2.2.2 (by repeat (first | rw [x_p_ne (by omega)] | rw [x_p_row (by omega)] | rw [x_r_ne2 (by omega)] | rw [f_cps_out (by omega)])) (by repeat (first | rw [x_p_ne (by omega)] | rw [x_p_row (by omega)] | rw [x_r_ne2 (by omega)] | rw [f_cps_out (by omega)])) (by repeat (first | rw [x_p_ne (by omega)] | rw [x_p_row (by omega)] | rw [x_r_ne2 (by omega)] | rw [f_cps_out (by omega)])) (by repeat (first | rw [x_p_ne (by omega)] | rw [x_p_row (by omega)] | rw [x_r_ne2 (by omega)] | rw [f_cps_out (by omega)]))⟩
    · rw [x_p_ne (by omega), x_p_ne (by omega), x_r_ne2 (by omega), x_p_at]; decide
    · rw [x_p_row (by omega), x_p_at]; decide
    · rw [x_p_ne (by omega), x_p_ne (by omega), x_r_same, pk_cpy_in (by omega) (by omega), x_p_ne (by omega), f_cps_out (by omega)]
      exact congrArg (d 176) (by omega)
