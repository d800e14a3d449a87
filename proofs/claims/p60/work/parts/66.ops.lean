/-! each change keeps the relation: single writes -/
theorem x_pa {d : xd} {k j a b : Nat} {v : Int32} : x_p d k j v a b = if a = k then (if b = j then v else d k b) else d a b := by
  unfold x_p x_r
  by_cases h : a = k
  · rw [if_pos h, if_pos h]
    rfl
  · rw [if_neg h, if_neg h]
theorem x_ra {d : xd} {k a b : Nat} {f : Nat → Int32} : x_r d k f a b = if a = k then f b else d a b := by
  unfold x_r
  by_cases h : a = k
  · rw [if_pos h, if_pos h]
  · rw [if_neg h, if_neg h]
theorem x_prow {d : xd} {k j : Nat} {v : Int32} : x_p d k j v k = upd (d k) j v := x_r_same d k _
theorem f_sum_upd {f : Nat → Int32} {i : Nat} {v : Int32} : ∀ {n : Nat}, i < n → f_sum (upd f i v) n = f_sum f n + (v - f i)
  | 0, h => absurd h (Nat.not_lt_zero i)
  | n + 1, h => by
    rw [f_sum, f_sum]
    rcases Nat.lt_or_ge i n with z | z
    · rw [f_sum_upd z, x_upd_ne (by omega)]
      grind
    · have e : i = n := by omega
      subst e
      rw [x_upd_at, f_sum_cong (f := upd f i v) (g := f) (fun j hj => x_upd_ne (by omega))]
      grind
theorem f_sum_s0 {f g : Nat → Int32} {n : Nat} (h : ∀ j, j < n → f j = g j) (h0 : f n = 0) : f_sum f (n + 1) = f_sum g n := by
  rw [f_sum, f_sum_cong h, h0, Int32.add_zero]
theorem f_sn_upd {f g : Nat → Nat} {i : Nat} : ∀ {n : Nat}, i < n → (∀ j, j < n → j ≠ i → g j = f j) → f_sn g n + f i = f_sn f n + g i
  | 0, h, _ => absurd h (Nat.not_lt_zero i)
  | n + 1, h, hg => by
    rw [f_sn, f_sn]
    rcases Nat.lt_or_ge i n with z | z
    · have := f_sn_upd (f := f) (g := g) z (fun j hj => hg j (by omega))
      rw [hg n (by omega) (by omega)]
      omega
    · have e : i = n := by omega
      subst e
      rw [f_sn_cong (f := g) (g := f) (fun j hj => hg j (by omega) (by omega))]
      omega

theorem e_l2 {d : xd} {o n q : Nat} {z : Nat → Int32} {i : Nat} {v : Int32} (h : r_E d o z n q) (hn : n ≤ 8) (hq : q ≤ 6) (hi : i < 8) : r_E (x_p d (o + 2) i v) o (upd z (6 + i) v) n q := by
  obtain ⟨e1, e2, e3, e4, e5, e6, e7⟩ := h
  refine ⟨by rw [x_p_ne (by omega)]; exact e1, by rw [x_upd_ne (by omega)]; exact e2, by rw [x_p_ne (by omega)]; exact e3, by rw [x_upd_ne (by omega)]; exact e4, fun j hj => ?_, fun k hk => ?_, ?_⟩
  · obtain ⟨a2, a3, a4, a5, a6, a7, a8⟩ := e5 j hj
    by_cases e : j = i
    · subst e
      exact ⟨by rw [x_p_at, x_upd_at], by rw [x_p_ne (by omega), x_upd_ne (by omega)]; exact a3, by rw [x_p_ne (by omega), x_upd_ne (by omega)]; exact a4, by rw [x_p_ne (by omega), x_upd_ne (by omega)]; exact a5, by rw [x_p_ne (by omega), x_upd_ne (by omega)]; exact a6, by rw [x_p_ne (by omega), x_upd_ne (by omega)]; exact a7, by rw [x_p_ne (by omega), x_upd_ne (by omega)]; exact a8⟩
    · exact ⟨by rw [x_p_row e, x_upd_ne (by omega)]; exact a2, by rw [x_p_ne (by omega), x_upd_ne (by omega)]; exact a3, by rw [x_p_ne (by omega), x_upd_ne (by omega)]; exact a4, by rw [x_p_ne (by omega), x_upd_ne (by omega)]; exact a5, by rw [x_p_ne (by omega), x_upd_ne (by omega)]; exact a6, by rw [x_p_ne (by omega), x_upd_ne (by omega)]; exact a7, by rw [x_p_ne (by omega), x_upd_ne (by omega)]; exact a8⟩
  · rw [x_p_ne (by omega), x_p_ne (by omega), x_p_ne (by omega), x_upd_ne (by omega), x_upd_ne (by omega), x_upd_ne (by omega)]; exact e6 k hk
  · rw [x_p_ne (by omega), x_upd_ne (by omega), x_upd_ne (by omega), x_upd_ne (by omega), x_upd_ne (by omega)]; exact e7
theorem e_l3 {d : xd} {o n q : Nat} {z : Nat → Int32} {i : Nat} {v : Int32} (h : r_E d o z n q) (hn : n ≤ 8) (hq : q ≤ 6) (hi : i < 8) : r_E (x_p d (o + 3) i v) o (upd z (14 + i) v) n q := by
  obtain ⟨e1, e2, e3, e4, e5, e6, e7⟩ := h
  refine ⟨by rw [x_p_ne (by omega)]; exact e1, by rw [x_upd_ne (by omega)]; exact e2, by rw [x_p_ne (by omega)]; exact e3, by rw [x_upd_ne (by omega)]; exact e4, fun j hj => ?_, fun k hk => ?_, ?_⟩
  · obtain ⟨a2, a3, a4, a5, a6, a7, a8⟩ := e5 j hj
    by_cases e : j = i
    · subst e
      exact ⟨by rw [x_p_ne (by omega), x_upd_ne (by omega)]; exact a2, by rw [x_p_at, x_upd_at], by rw [x_p_ne (by omega), x_upd_ne (by omega)]; exact a4, by rw [x_p_ne (by omega), x_upd_ne (by omega)]; exact a5, by rw [x_p_ne (by omega), x_upd_ne (by omega)]; exact a6, by rw [x_p_ne (by omega), x_upd_ne (by omega)]; exact a7, by rw [x_p_ne (by omega), x_upd_ne (by omega)]; exact a8⟩
    · exact ⟨by rw [x_p_ne (by omega), x_upd_ne (by omega)]; exact a2, by rw [x_p_row e, x_upd_ne (by omega)]; exact a3, by rw [x_p_ne (by omega), x_upd_ne (by omega)]; exact a4, by rw [x_p_ne (by omega), x_upd_ne (by omega)]; exact a5, by rw [x_p_ne (by omega), x_upd_ne (by omega)]; exact a6, by rw [x_p_ne (by omega), x_upd_ne (by omega)]; exact a7, by rw [x_p_ne (by omega), x_upd_ne (by omega)]; exact a8⟩
  · rw [x_p_ne (by omega), x_p_ne (by omega), x_p_ne (by omega), x_upd_ne (by omega), x_upd_ne (by omega), x_upd_ne (by omega)]; exact e6 k hk
  · rw [x_p_ne (by omega), x_upd_ne (by omega), x_upd_ne (by omega), x_upd_ne (by omega), x_upd_ne (by omega)]; exact e7
theorem e_l4 {d : xd} {o n q : Nat} {z : Nat → Int32} {i : Nat} {v : Int32} (h : r_E d o z n q) (hn : n ≤ 8) (hq : q ≤ 6) (hi : i < 8) : r_E (x_p d (o + 4) i v) o (upd z (22 + i) v) n q := by
  obtain ⟨e1, e2, e3, e4, e5, e6, e7⟩ := h
  refine ⟨by rw [x_p_ne (by omega)]; exact e1, by rw [x_upd_ne (by omega)]; exact e2, by rw [x_p_ne (by omega)]; exact e3, by rw [x_upd_ne (by omega)]; exact e4, fun j hj => ?_, fun k hk => ?_, ?_⟩
  · obtain ⟨a2, a3, a4, a5, a6, a7, a8⟩ := e5 j hj
    by_cases e : j = i
    · subst e
      exact ⟨by rw [x_p_ne (by omega), x_upd_ne (by omega)]; exact a2, by rw [x_p_ne (by omega), x_upd_ne (by omega)]; exact a3, by rw [x_p_at, x_upd_at], by rw [x_p_ne (by omega), x_upd_ne (by omega)]; exact a5, by rw [x_p_ne (by omega), x_upd_ne (by omega)]; exact a6, by rw [x_p_ne (by omega), x_upd_ne (by omega)]; exact a7, by rw [x_p_ne (by omega), x_upd_ne (by omega)]; exact a8⟩
    · exact ⟨by rw [x_p_ne (by omega), x_upd_ne (by omega)]; exact a2, by rw [x_p_ne (by omega), x_upd_ne (by omega)]; exact a3, by rw [x_p_row e, x_upd_ne (by omega)]; exact a4, by rw [x_p_ne (by omega), x_upd_ne (by omega)]; exact a5, by rw [x_p_ne (by omega), x_upd_ne (by omega)]; exact a6, by rw [x_p_ne (by omega), x_upd_ne (by omega)]; exact a7, by rw [x_p_ne (by omega), x_upd_ne (by omega)]; exact a8⟩
  · rw [x_p_ne (by omega), x_p_ne (by omega), x_p_ne (by omega), x_upd_ne (by omega), x_upd_ne (by omega), x_upd_ne (by omega)]; exact e6 k hk
  · rw [x_p_ne (by omega), x_upd_ne (by omega), x_upd_ne (by omega), x_upd_ne (by omega), x_upd_ne (by omega)]; exact e7
theorem e_l6 {d : xd} {o n q : Nat} {z : Nat → Int32} {i : Nat} {v : Int32} (h : r_E d o z n q) (hn : n ≤ 8) (hq : q ≤ 6) (hi : i < 8) : r_E (x_p d (o + 6) i v) o (upd z (38 + i) v) n q := by
  obtain ⟨e1, e2, e3, e4, e5, e6, e7⟩ := h
  refine ⟨by rw [x_p_ne (by omega)]; exact e1, by rw [x_upd_ne (by omega)]; exact e2, by rw [x_p_ne (by omega)]; exact e3, by rw [x_upd_ne (by omega)]; exact e4, fun j hj => ?_, fun k hk => ?_, ?_⟩
  · obtain ⟨a2, a3, a4, a5, a6, a7, a8⟩ := e5 j hj
    by_cases e : j = i
    · subst e
      exact ⟨by rw [x_p_ne (by omega), x_upd_ne (by omega)]; exact a2, by rw [x_p_ne (by omega), x_upd_ne (by omega)]; exact a3, by rw [x_p_ne (by omega), x_upd_ne (by omega)]; exact a4, by rw [x_p_ne (by omega), x_upd_ne (by omega)]; exact a5, by rw [x_p_at, x_upd_at], by rw [x_p_ne (by omega), x_upd_ne (by omega)]; exact a7, by rw [x_p_ne (by omega), x_upd_ne (by omega)]; exact a8⟩
    · exact ⟨by rw [x_p_ne (by omega), x_upd_ne (by omega)]; exact a2, by rw [x_p_ne (by omega), x_upd_ne (by omega)]; exact a3, by rw [x_p_ne (by omega), x_upd_ne (by omega)]; exact a4, by rw [x_p_ne (by omega), x_upd_ne (by omega)]; exact a5, by rw [x_p_row e, x_upd_ne (by omega)]; exact a6, by rw [x_p_ne (by omega), x_upd_ne (by omega)]; exact a7, by rw [x_p_ne (by omega), x_upd_ne (by omega)]; exact a8⟩
  · rw [x_p_ne (by omega), x_p_ne (by omega), x_p_ne (by omega), x_upd_ne (by omega), x_upd_ne (by omega), x_upd_ne (by omega)]; exact e6 k hk
  · rw [x_p_ne (by omega), x_upd_ne (by omega), x_upd_ne (by omega), x_upd_ne (by omega), x_upd_ne (by omega)]; exact e7
theorem e_l7 {d : xd} {o n q : Nat} {z : Nat → Int32} {i : Nat} {v : Int32} (h : r_E d o z n q) (hn : n ≤ 8) (hq : q ≤ 6) (hi : i < 8) : r_E (x_p d (o + 7) i v) o (upd z (46 + i) v) n q := by
  obtain ⟨e1, e2, e3, e4, e5, e6, e7⟩ := h
  refine ⟨by rw [x_p_ne (by omega)]; exact e1, by rw [x_upd_ne (by omega)]; exact e2, by rw [x_p_ne (by omega)]; exact e3, by rw [x_upd_ne (by omega)]; exact e4, fun j hj => ?_, fun k hk => ?_, ?_⟩
  · obtain ⟨a2, a3, a4, a5, a6, a7, a8⟩ := e5 j hj
    by_cases e : j = i
    · subst e
      exact ⟨by rw [x_p_ne (by omega), x_upd_ne (by omega)]; exact a2, by rw [x_p_ne (by omega), x_upd_ne (by omega)]; exact a3, by rw [x_p_ne (by omega), x_upd_ne (by omega)]; exact a4, by rw [x_p_ne (by omega), x_upd_ne (by omega)]; exact a5, by rw [x_p_ne (by omega), x_upd_ne (by omega)]; exact a6, by rw [x_p_at, x_upd_at], by rw [x_p_ne (by omega), x_upd_ne (by omega)]; exact a8⟩
    · exact ⟨by rw [x_p_ne (by omega), x_upd_ne (by omega)]; exact a2, by rw [x_p_ne (by omega), x_upd_ne (by omega)]; exact a3, by rw [x_p_ne (by omega), x_upd_ne (by omega)]; exact a4, by rw [x_p_ne (by omega), x_upd_ne (by omega)]; exact a5, by rw [x_p_ne (by omega), x_upd_ne (by omega)]; exact a6, by rw [x_p_row e, x_upd_ne (by omega)]; exact a7, by rw [x_p_ne (by omega), x_upd_ne (by omega)]; exact a8⟩
  · rw [x_p_ne (by omega), x_p_ne (by omega), x_p_ne (by omega), x_upd_ne (by omega), x_upd_ne (by omega), x_upd_ne (by omega)]; exact e6 k hk
  · rw [x_p_ne (by omega), x_upd_ne (by omega), x_upd_ne (by omega), x_upd_ne (by omega), x_upd_ne (by omega)]; exact e7
theorem e_l8 {d : xd} {o n q : Nat} {z : Nat → Int32} {i : Nat} {v : Int32} (h : r_E d o z n q) (hn : n ≤ 8) (hq : q ≤ 6) (hi : i < 8) : r_E (x_p d (o + 8) i v) o (upd z (54 + i) v) n q := by
  obtain ⟨e1, e2, e3, e4, e5, e6, e7⟩ := h
  refine ⟨by rw [x_p_ne (by omega)]; exact e1, by rw [x_upd_ne (by omega)]; exact e2, by rw [x_p_ne (by omega)]; exact e3, by rw [x_upd_ne (by omega)]; exact e4, fun j hj => ?_, fun k hk => ?_, ?_⟩
  · obtain ⟨a2, a3, a4, a5, a6, a7, a8⟩ := e5 j hj
    by_cases e : j = i
    · subst e
      exact ⟨by rw [x_p_ne (by omega), x_upd_ne (by omega)]; exact a2, by rw [x_p_ne (by omega), x_upd_ne (by omega)]; exact a3, by rw [x_p_ne (by omega), x_upd_ne (by omega)]; exact a4, by rw [x_p_ne (by omega), x_upd_ne (by omega)]; exact a5, by rw [x_p_ne (by omega), x_upd_ne (by omega)]; exact a6, by rw [x_p_ne (by omega), x_upd_ne (by omega)]; exact a7, by rw [x_p_at, x_upd_at]⟩
    · exact ⟨by rw [x_p_ne (by omega), x_upd_ne (by omega)]; exact a2, by rw [x_p_ne (by omega), x_upd_ne (by omega)]; exact a3, by rw [x_p_ne (by omega), x_upd_ne (by omega)]; exact a4, by rw [x_p_ne (by omega), x_upd_ne (by omega)]; exact a5, by rw [x_p_ne (by omega), x_upd_ne (by omega)]; exact a6, by rw [x_p_ne (by omega), x_upd_ne (by omega)]; exact a7, by rw [x_p_row e, x_upd_ne (by omega)]; exact a8⟩
  · rw [x_p_ne (by omega), x_p_ne (by omega), x_p_ne (by omega), x_upd_ne (by omega), x_upd_ne (by omega), x_upd_ne (by omega)]; exact e6 k hk
  · rw [x_p_ne (by omega), x_upd_ne (by omega), x_upd_ne (by omega), x_upd_ne (by omega), x_upd_ne (by omega)]; exact e7
theorem e_l5 {d : xd} {o n q : Nat} {z : Nat → Int32} {i : Nat} {v u : Int32} (hv : (¬ x_bz v = 0 ∧ u = 0) ∨ (x_bz v = 0 ∧ u = 1)) (h : r_E d o z n q) (hn : n ≤ 8) (hq : q ≤ 6) (hi : i < 8) : r_E (x_p d (o + 5) i v) o (upd z (30 + i) u) n q := by
  obtain ⟨e1, e2, e3, e4, e5, e6, e7⟩ := h
  refine ⟨by rw [x_p_ne (by omega)]; exact e1, by rw [x_upd_ne (by omega)]; exact e2, by rw [x_p_ne (by omega)]; exact e3, by rw [x_upd_ne (by omega)]; exact e4, fun j hj => ?_, fun k hk => ?_, ?_⟩
  · obtain ⟨a2, a3, a4, a5, a6, a7, a8⟩ := e5 j hj
    by_cases e : j = i
    · subst e
      exact ⟨by rw [x_p_ne (by omega), x_upd_ne (by omega)]; exact a2, by rw [x_p_ne (by omega), x_upd_ne (by omega)]; exact a3, by rw [x_p_ne (by omega), x_upd_ne (by omega)]; exact a4, by rw [x_p_at, x_upd_at]; exact hv, by rw [x_p_ne (by omega), x_upd_ne (by omega)]; exact a6, by rw [x_p_ne (by omega), x_upd_ne (by omega)]; exact a7, by rw [x_p_ne (by omega), x_upd_ne (by omega)]; exact a8⟩
    · exact ⟨by rw [x_p_ne (by omega), x_upd_ne (by omega)]; exact a2, by rw [x_p_ne (by omega), x_upd_ne (by omega)]; exact a3, by rw [x_p_ne (by omega), x_upd_ne (by omega)]; exact a4, by rw [x_p_row e, x_upd_ne (by omega)]; exact a5, by rw [x_p_ne (by omega), x_upd_ne (by omega)]; exact a6, by rw [x_p_ne (by omega), x_upd_ne (by omega)]; exact a7, by rw [x_p_ne (by omega), x_upd_ne (by omega)]; exact a8⟩
  · rw [x_p_ne (by omega), x_p_ne (by omega), x_p_ne (by omega), x_upd_ne (by omega), x_upd_ne (by omega), x_upd_ne (by omega)]; exact e6 k hk
  · rw [x_p_ne (by omega), x_upd_ne (by omega), x_upd_ne (by omega), x_upd_ne (by omega), x_upd_ne (by omega)]; exact e7
theorem e_m10 {d : xd} {o n q : Nat} {z : Nat → Int32} {i : Nat} {v u : Int32} (hv : v = u - 1) (h : r_E d o z n q) (hn : n ≤ 8) (hq : q ≤ 6) (hi : i < 6) : r_E (x_p d (o + 10) i v) o (upd z (62 + i) u) n q := by
  obtain ⟨e1, e2, e3, e4, e5, e6, e7⟩ := h
  refine ⟨by rw [x_p_ne (by omega)]; exact e1, by rw [x_upd_ne (by omega)]; exact e2, by rw [x_p_ne (by omega)]; exact e3, by rw [x_upd_ne (by omega)]; exact e4, fun j hj => ?_, fun k hk => ?_, ?_⟩
  · rw [x_p_ne (by omega), x_p_ne (by omega), x_p_ne (by omega), x_p_ne (by omega), x_p_ne (by omega), x_p_ne (by omega), x_p_ne (by omega), x_upd_ne (by omega), x_upd_ne (by omega), x_upd_ne (by omega), x_upd_ne (by omega), x_upd_ne (by omega), x_upd_ne (by omega), x_upd_ne (by omega)]; exact e5 j hj
  · obtain ⟨a10, a11, a12⟩ := e6 k hk
    by_cases e : k = i
    · subst e
      exact ⟨by rw [x_p_at, x_upd_at]; exact hv, by rw [x_p_ne (by omega), x_upd_ne (by omega)]; exact a11, by rw [x_p_ne (by omega), x_upd_ne (by omega)]; exact a12⟩
    · exact ⟨by rw [x_p_row e, x_upd_ne (by omega)]; exact a10, by rw [x_p_ne (by omega), x_upd_ne (by omega)]; exact a11, by rw [x_p_ne (by omega), x_upd_ne (by omega)]; exact a12⟩
  · rw [x_p_ne (by omega), x_upd_ne (by omega), x_upd_ne (by omega), x_upd_ne (by omega), x_upd_ne (by omega)]; exact e7
theorem e_m11 {d : xd} {o n q : Nat} {z : Nat → Int32} {i : Nat} {v : Int32} (h : r_E d o z n q) (hn : n ≤ 8) (hq : q ≤ 6) (hi : i < 6) : r_E (x_p d (o + 11) i v) o (upd z (68 + i) v) n q := by
  obtain ⟨e1, e2, e3, e4, e5, e6, e7⟩ := h
  refine ⟨by rw [x_p_ne (by omega)]; exact e1, by rw [x_upd_ne (by omega)]; exact e2, by rw [x_p_ne (by omega)]; exact e3, by rw [x_upd_ne (by omega)]; exact e4, fun j hj => ?_, fun k hk => ?_, ?_⟩
  · rw [x_p_ne (by omega), x_p_ne (by omega), x_p_ne (by omega), x_p_ne (by omega), x_p_ne (by omega), x_p_ne (by omega), x_p_ne (by omega), x_upd_ne (by omega), x_upd_ne (by omega), x_upd_ne (by omega), x_upd_ne (by omega), x_upd_ne (by omega), x_upd_ne (by omega), x_upd_ne (by omega)]; exact e5 j hj
  · obtain ⟨a10, a11, a12⟩ := e6 k hk
    by_cases e : k = i
    · subst e
      exact ⟨by rw [x_p_ne (by omega), x_upd_ne (by omega)]; exact a10, by rw [x_p_at, x_upd_at], by rw [x_p_ne (by omega), x_upd_ne (by omega)]; exact a12⟩
    · exact ⟨by rw [x_p_ne (by omega), x_upd_ne (by omega)]; exact a10, by rw [x_p_row e, x_upd_ne (by omega)]; exact a11, by rw [x_p_ne (by omega), x_upd_ne (by omega)]; exact a12⟩
  · rw [x_p_ne (by omega), x_upd_ne (by omega), x_upd_ne (by omega), x_upd_ne (by omega), x_upd_ne (by omega)]; exact e7
theorem e_m12 {d : xd} {o n q : Nat} {z : Nat → Int32} {i : Nat} {v : Int32} (h : r_E d o z n q) (hn : n ≤ 8) (hq : q ≤ 6) (hi : i < 6) : r_E (x_p d (o + 12) i v) o (upd z (74 + i) v) n q := by
  obtain ⟨e1, e2, e3, e4, e5, e6, e7⟩ := h
  refine ⟨by rw [x_p_ne (by omega)]; exact e1, by rw [x_upd_ne (by omega)]; exact e2, by rw [x_p_ne (by omega)]; exact e3, by rw [x_upd_ne (by omega)]; exact e4, fun j hj => ?_, fun k hk => ?_, ?_⟩
  · rw [x_p_ne (by omega), x_p_ne (by omega), x_p_ne (by omega), x_p_ne (by omega), x_p_ne (by omega), x_p_ne (by omega), x_p_ne (by omega), x_upd_ne (by omega), x_upd_ne (by omega), x_upd_ne (by omega), x_upd_ne (by omega), x_upd_ne (by omega), x_upd_ne (by omega), x_upd_ne (by omega)]; exact e5 j hj
  · obtain ⟨a10, a11, a12⟩ := e6 k hk
    by_cases e : k = i
    · subst e
      exact ⟨by rw [x_p_ne (by omega), x_upd_ne (by omega)]; exact a10, by rw [x_p_ne (by omega), x_upd_ne (by omega)]; exact a11, by rw [x_p_at, x_upd_at]⟩
    · exact ⟨by rw [x_p_ne (by omega), x_upd_ne (by omega)]; exact a10, by rw [x_p_ne (by omega), x_upd_ne (by omega)]; exact a11, by rw [x_p_row e, x_upd_ne (by omega)]; exact a12⟩
  · rw [x_p_ne (by omega), x_upd_ne (by omega), x_upd_ne (by omega), x_upd_ne (by omega), x_upd_ne (by omega)]; exact e7
theorem e_b3 {d : xd} {o n q : Nat} {z : Nat → Int32} {v : Int32} (h : r_E d o z n q) (hn : n ≤ 8) (hq : q ≤ 6) : r_E (x_p d (o + 13) 3 v) o (upd z 2 v) n q := by
  obtain ⟨e1, e2, e3, e4, e5, e6, e7⟩ := h
  refine ⟨by rw [x_p_ne (by omega)]; exact e1, by rw [x_upd_ne (by omega)]; exact e2, by rw [x_p_ne (by omega)]; exact e3, by rw [x_upd_ne (by omega)]; exact e4, fun j hj => ?_, fun k hk => ?_, ?_⟩
  · rw [x_p_ne (by omega), x_p_ne (by omega), x_p_ne (by omega), x_p_ne (by omega), x_p_ne (by omega), x_p_ne (by omega), x_p_ne (by omega), x_upd_ne (by omega), x_upd_ne (by omega), x_upd_ne (by omega), x_upd_ne (by omega), x_upd_ne (by omega), x_upd_ne (by omega), x_upd_ne (by omega)]; exact e5 j hj
  · rw [x_p_ne (by omega), x_p_ne (by omega), x_p_ne (by omega), x_upd_ne (by omega), x_upd_ne (by omega), x_upd_ne (by omega)]; exact e6 k hk
  · obtain ⟨a3, a0, a1, a2⟩ := e7
    exact ⟨by rw [x_p_at, x_upd_at], by rw [x_p_row (by omega), x_upd_ne (by omega)]; exact a0, by rw [x_p_row (by omega), x_upd_ne (by omega)]; exact a1, by rw [x_p_row (by omega), x_upd_ne (by omega)]; exact a2⟩
theorem e_b0 {d : xd} {o n q : Nat} {z : Nat → Int32} {v : Int32} (h : r_E d o z n q) (hn : n ≤ 8) (hq : q ≤ 6) : r_E (x_p d (o + 13) 0 v) o (upd z 3 v) n q := by
  obtain ⟨e1, e2, e3, e4, e5, e6, e7⟩ := h
  refine ⟨by rw [x_p_ne (by omega)]; exact e1, by rw [x_upd_ne (by omega)]; exact e2, by rw [x_p_ne (by omega)]; exact e3, by rw [x_upd_ne (by omega)]; exact e4, fun j hj => ?_, fun k hk => ?_, ?_⟩
  · rw [x_p_ne (by omega), x_p_ne (by omega), x_p_ne (by omega), x_p_ne (by omega), x_p_ne (by omega), x_p_ne (by omega), x_p_ne (by omega), x_upd_ne (by omega), x_upd_ne (by omega), x_upd_ne (by omega), x_upd_ne (by omega), x_upd_ne (by omega), x_upd_ne (by omega), x_upd_ne (by omega)]; exact e5 j hj
  · rw [x_p_ne (by omega), x_p_ne (by omega), x_p_ne (by omega), x_upd_ne (by omega), x_upd_ne (by omega), x_upd_ne (by omega)]; exact e6 k hk
  · obtain ⟨a3, a0, a1, a2⟩ := e7
    exact ⟨by rw [x_p_row (by omega), x_upd_ne (by omega)]; exact a3, by rw [x_p_at, x_upd_at], by rw [x_p_row (by omega), x_upd_ne (by omega)]; exact a1, by rw [x_p_row (by omega), x_upd_ne (by omega)]; exact a2⟩
theorem e_b1 {d : xd} {o n q : Nat} {z : Nat → Int32} {v : Int32} (h : r_E d o z n q) (hn : n ≤ 8) (hq : q ≤ 6) : r_E (x_p d (o + 13) 1 v) o (upd z 4 v) n q := by
  obtain ⟨e1, e2, e3, e4, e5, e6, e7⟩ := h
  refine ⟨by rw [x_p_ne (by omega)]; exact e1, by rw [x_upd_ne (by omega)]; exact e2, by rw [x_p_ne (by omega)]; exact e3, by rw [x_upd_ne (by omega)]; exact e4, fun j hj => ?_, fun k hk => ?_, ?_⟩
  · rw [x_p_ne (by omega), x_p_ne (by omega), x_p_ne (by omega), x_p_ne (by omega), x_p_ne (by omega), x_p_ne (by omega), x_p_ne (by omega), x_upd_ne (by omega), x_upd_ne (by omega), x_upd_ne (by omega), x_upd_ne (by omega), x_upd_ne (by omega), x_upd_ne (by omega), x_upd_ne (by omega)]; exact e5 j hj
  · rw [x_p_ne (by omega), x_p_ne (by omega), x_p_ne (by omega), x_upd_ne (by omega), x_upd_ne (by omega), x_upd_ne (by omega)]; exact e6 k hk
  · obtain ⟨a3, a0, a1, a2⟩ := e7
    exact ⟨by rw [x_p_row (by omega), x_upd_ne (by omega)]; exact a3, by rw [x_p_row (by omega), x_upd_ne (by omega)]; exact a0, by rw [x_p_at, x_upd_at], by rw [x_p_row (by omega), x_upd_ne (by omega)]; exact a2⟩
theorem e_b2 {d : xd} {o n q : Nat} {z : Nat → Int32} {v : Int32} (h : r_E d o z n q) (hn : n ≤ 8) (hq : q ≤ 6) : r_E (x_p d (o + 13) 2 v) o (upd z 5 v) n q := by
  obtain ⟨e1, e2, e3, e4, e5, e6, e7⟩ := h
  refine ⟨by rw [x_p_ne (by omega)]; exact e1, by rw [x_upd_ne (by omega)]; exact e2, by rw [x_p_ne (by omega)]; exact e3, by rw [x_upd_ne (by omega)]; exact e4, fun j hj => ?_, fun k hk => ?_, ?_⟩
  · rw [x_p_ne (by omega), x_p_ne (by omega), x_p_ne (by omega), x_p_ne (by omega), x_p_ne (by omega), x_p_ne (by omega), x_p_ne (by omega), x_upd_ne (by omega), x_upd_ne (by omega), x_upd_ne (by omega), x_upd_ne (by omega), x_upd_ne (by omega), x_upd_ne (by omega), x_upd_ne (by omega)]; exact e5 j hj
  · rw [x_p_ne (by omega), x_p_ne (by omega), x_p_ne (by omega), x_upd_ne (by omega), x_upd_ne (by omega), x_upd_ne (by omega)]; exact e6 k hk
  · obtain ⟨a3, a0, a1, a2⟩ := e7
    exact ⟨by rw [x_p_row (by omega), x_upd_ne (by omega)]; exact a3, by rw [x_p_row (by omega), x_upd_ne (by omega)]; exact a0, by rw [x_p_row (by omega), x_upd_ne (by omega)]; exact a1, by rw [x_p_at, x_upd_at]⟩
theorem e_bx {d : xd} {o n q : Nat} {z : Nat → Int32} {j : Nat} {v : Int32} (h : r_E d o z n q) (hj9 : 4 ≤ j) : r_E (x_p d (o + 13) j v) o z n q := by
  obtain ⟨e1, e2, e3, e4, e5, e6, e7⟩ := h
  refine ⟨by rw [x_p_ne (by omega)]; exact e1, e2, by rw [x_p_ne (by omega)]; exact e3, e4, fun j hj => ?_, fun k hk => ?_, ?_⟩
  · rw [x_p_ne (by omega), x_p_ne (by omega), x_p_ne (by omega), x_p_ne (by omega), x_p_ne (by omega), x_p_ne (by omega), x_p_ne (by omega)]; exact e5 j hj
  · rw [x_p_ne (by omega), x_p_ne (by omega), x_p_ne (by omega)]; exact e6 k hk
  · rw [x_p_row (by omega), x_p_row (by omega), x_p_row (by omega), x_p_row (by omega)]; exact e7
/-- one lamp more, its row told; one moth more -/
def r_L (d : xd) (o : Nat) (z : Nat → Int32) (i : Nat) : Prop := d (o + 2) i = z (6 + i) ∧ d (o + 3) i = z (14 + i) ∧ d (o + 4) i = z (22 + i) ∧ ((¬ x_bz (d (o + 5) i) = 0 ∧ z (30 + i) = 0) ∨ (x_bz (d (o + 5) i) = 0 ∧ z (30 + i) = 1)) ∧ d (o + 6) i = z (38 + i) ∧ d (o + 7) i = z (46 + i) ∧ d (o + 8) i = z (54 + i)
theorem e_n {d : xd} {o n q : Nat} {z : Nat → Int32} (h : r_E d o z n q) (hl : r_L d o z n) (hn : n < 8) (hq : q ≤ 6) : r_E (x_p d (o + 1) 0 (nI (n + 1))) o (upd z 0 (nI (n + 1))) (n + 1) q := by
  obtain ⟨e1, e2, e3, e4, e5, e6, e7⟩ := h
  refine ⟨x_p_at, x_upd_at, by rw [x_p_ne (by omega)]; exact e3, by rw [x_upd_ne (by omega)]; exact e4, fun j hj => ?_, fun k hk => ?_, ?_⟩
  · rw [x_p_ne (by omega), x_p_ne (by omega), x_p_ne (by omega), x_p_ne (by omega), x_p_ne (by omega), x_p_ne (by omega), x_p_ne (by omega), x_upd_ne (by omega), x_upd_ne (by omega), x_upd_ne (by omega), x_upd_ne (by omega), x_upd_ne (by omega), x_upd_ne (by omega), x_upd_ne (by omega)]
    rcases Nat.lt_or_ge j n with y | y
    · exact e5 j y
    · have e : j = n := by omega
      subst e
      exact hl
  · rw [x_p_ne (by omega), x_p_ne (by omega), x_p_ne (by omega), x_upd_ne (by omega), x_upd_ne (by omega), x_upd_ne (by omega)]; exact e6 k hk
  · rw [x_p_ne (by omega), x_upd_ne (by omega), x_upd_ne (by omega), x_upd_ne (by omega), x_upd_ne (by omega)]; exact e7
def r_K (d : xd) (o : Nat) (z : Nat → Int32) (k : Nat) : Prop := d (o + 10) k = z (62 + k) - 1 ∧ d (o + 11) k = z (68 + k) ∧ d (o + 12) k = z (74 + k)
theorem e_q {d : xd} {o n q : Nat} {z : Nat → Int32} (h : r_E d o z n q) (hl : r_K d o z q) (hn : n ≤ 8) (hq : q < 6) : r_E (x_p d (o + 9) 0 (nI (q + 1))) o (upd z 1 (nI (q + 1))) n (q + 1) := by
  obtain ⟨e1, e2, e3, e4, e5, e6, e7⟩ := h
  refine ⟨by rw [x_p_ne (by omega)]; exact e1, by rw [x_upd_ne (by omega)]; exact e2, x_p_at, x_upd_at, fun j hj => ?_, fun k hk => ?_, ?_⟩
  · rw [x_p_ne (by omega), x_p_ne (by omega), x_p_ne (by omega), x_p_ne (by omega), x_p_ne (by omega), x_p_ne (by omega), x_p_ne (by omega), x_upd_ne (by omega), x_upd_ne (by omega), x_upd_ne (by omega), x_upd_ne (by omega), x_upd_ne (by omega), x_upd_ne (by omega), x_upd_ne (by omega)]
    exact e5 j hj
  · rw [x_p_ne (by omega), x_p_ne (by omega), x_p_ne (by omega), x_upd_ne (by omega), x_upd_ne (by omega), x_upd_ne (by omega)]
    rcases Nat.lt_or_ge k q with y | y
    · exact e6 k y
    · have e : k = q := by omega
      subst e
      exact hl
  · rw [x_p_ne (by omega), x_upd_ne (by omega), x_upd_ne (by omega), x_upd_ne (by omega), x_upd_ne (by omega)]; exact e7
theorem v_l2 {d : xd} {o n q : Nat} {v : Int32} {i : Nat} (h : r_V d o n q) (hv : ∃ a, a < 4 ∧ v = nI a) : r_V (x_p d (o + 2) i v) o n q := by
  obtain ⟨v1, v2, v3, v4, v5⟩ := h
  refine ⟨v1, v2, fun j hj => ?_, fun k hk => by rw [x_p_ne (by omega), x_p_ne (by omega), x_p_ne (by omega)]; exact v4 k hk, by rw [x_p_ne (by omega)]; exact v5⟩
  obtain ⟨a2, a3, a4, a6, a7⟩ := v3 j hj
  by_cases e : j = i
  · subst e
    exact ⟨by rw [x_p_at]; exact hv, by rw [x_p_ne (by omega)]; exact a3, by rw [x_p_ne (by omega)]; exact a4, by rw [x_p_ne (by omega)]; exact a6, by rw [x_p_ne (by omega)]; exact a7⟩
  · exact ⟨by rw [x_p_row e]; exact a2, by rw [x_p_ne (by omega)]; exact a3, by rw [x_p_ne (by omega)]; exact a4, by rw [x_p_ne (by omega)]; exact a6, by rw [x_p_ne (by omega)]; exact a7⟩
theorem v_l3 {d : xd} {o n q : Nat} {v : Int32} {i : Nat} (h : r_V d o n q) (hv : ∃ a, 1 ≤ a ∧ a ≤ 9 ∧ v = nI a) : r_V (x_p d (o + 3) i v) o n q := by
  obtain ⟨v1, v2, v3, v4, v5⟩ := h
  refine ⟨v1, v2, fun j hj => ?_, fun k hk => by rw [x_p_ne (by omega), x_p_ne (by omega), x_p_ne (by omega)]; exact v4 k hk, by rw [x_p_ne (by omega)]; exact v5⟩
  obtain ⟨a2, a3, a4, a6, a7⟩ := v3 j hj
  by_cases e : j = i
  · subst e
    exact ⟨by rw [x_p_ne (by omega)]; exact a2, by rw [x_p_at]; exact hv, by rw [x_p_ne (by omega)]; exact a4, by rw [x_p_ne (by omega)]; exact a6, by rw [x_p_ne (by omega)]; exact a7⟩
  · exact ⟨by rw [x_p_ne (by omega)]; exact a2, by rw [x_p_row e]; exact a3, by rw [x_p_ne (by omega)]; exact a4, by rw [x_p_ne (by omega)]; exact a6, by rw [x_p_ne (by omega)]; exact a7⟩
theorem v_l4 {d : xd} {o n q : Nat} {v : Int32} {i : Nat} (h : r_V d o n q) (hv : ∃ a, 1 ≤ a ∧ a ≤ 5 ∧ v = nI a) : r_V (x_p d (o + 4) i v) o n q := by
  obtain ⟨v1, v2, v3, v4, v5⟩ := h
  refine ⟨v1, v2, fun j hj => ?_, fun k hk => by rw [x_p_ne (by omega), x_p_ne (by omega), x_p_ne (by omega)]; exact v4 k hk, by rw [x_p_ne (by omega)]; exact v5⟩
  obtain ⟨a2, a3, a4, a6, a7⟩ := v3 j hj
  by_cases e : j = i
  · subst e
    exact ⟨by rw [x_p_ne (by omega)]; exact a2, by rw [x_p_ne (by omega)]; exact a3, by rw [x_p_at]; exact hv, by rw [x_p_ne (by omega)]; exact a6, by rw [x_p_ne (by omega)]; exact a7⟩
  · exact ⟨by rw [x_p_ne (by omega)]; exact a2, by rw [x_p_ne (by omega)]; exact a3, by rw [x_p_row e]; exact a4, by rw [x_p_ne (by omega)]; exact a6, by rw [x_p_ne (by omega)]; exact a7⟩
theorem v_l5 {d : xd} {o n q : Nat} {v : Int32} {i : Nat} (h : r_V d o n q) : r_V (x_p d (o + 5) i v) o n q := by
  obtain ⟨v1, v2, v3, v4, v5⟩ := h
  refine ⟨v1, v2, fun j hj => ?_, fun k hk => by rw [x_p_ne (by omega), x_p_ne (by omega), x_p_ne (by omega)]; exact v4 k hk, by rw [x_p_ne (by omega)]; exact v5⟩
  rw [x_p_ne (by omega), x_p_ne (by omega), x_p_ne (by omega), x_p_ne (by omega), x_p_ne (by omega)]; exact v3 j hj
theorem v_l6 {d : xd} {o n q : Nat} {v : Int32} {i : Nat} (h : r_V d o n q) (hv : ∃ a, a ≤ 60 ∧ v = nI a) : r_V (x_p d (o + 6) i v) o n q := by
  obtain ⟨v1, v2, v3, v4, v5⟩ := h
  refine ⟨v1, v2, fun j hj => ?_, fun k hk => by rw [x_p_ne (by omega), x_p_ne (by omega), x_p_ne (by omega)]; exact v4 k hk, by rw [x_p_ne (by omega)]; exact v5⟩
  obtain ⟨a2, a3, a4, a6, a7⟩ := v3 j hj
  by_cases e : j = i
  · subst e
    exact ⟨by rw [x_p_ne (by omega)]; exact a2, by rw [x_p_ne (by omega)]; exact a3, by rw [x_p_ne (by omega)]; exact a4, by rw [x_p_at]; exact hv, by rw [x_p_ne (by omega)]; exact a7⟩
  · exact ⟨by rw [x_p_ne (by omega)]; exact a2, by rw [x_p_ne (by omega)]; exact a3, by rw [x_p_ne (by omega)]; exact a4, by rw [x_p_row e]; exact a6, by rw [x_p_ne (by omega)]; exact a7⟩
theorem v_l7 {d : xd} {o n q : Nat} {v : Int32} {i : Nat} (h : r_V d o n q) (hv : ∃ a, a ≤ 9 ∧ v = nI a) : r_V (x_p d (o + 7) i v) o n q := by
  obtain ⟨v1, v2, v3, v4, v5⟩ := h
  refine ⟨v1, v2, fun j hj => ?_, fun k hk => by rw [x_p_ne (by omega), x_p_ne (by omega), x_p_ne (by omega)]; exact v4 k hk, by rw [x_p_ne (by omega)]; exact v5⟩
  obtain ⟨a2, a3, a4, a6, a7⟩ := v3 j hj
  by_cases e : j = i
  · subst e
    exact ⟨by rw [x_p_ne (by omega)]; exact a2, by rw [x_p_ne (by omega)]; exact a3, by rw [x_p_ne (by omega)]; exact a4, by rw [x_p_ne (by omega)]; exact a6, by rw [x_p_at]; exact hv⟩
  · exact ⟨by rw [x_p_ne (by omega)]; exact a2, by rw [x_p_ne (by omega)]; exact a3, by rw [x_p_ne (by omega)]; exact a4, by rw [x_p_ne (by omega)]; exact a6, by rw [x_p_row e]; exact a7⟩
theorem v_l8 {d : xd} {o n q : Nat} {v : Int32} {i : Nat} (h : r_V d o n q) : r_V (x_p d (o + 8) i v) o n q := by
  obtain ⟨v1, v2, v3, v4, v5⟩ := h
  refine ⟨v1, v2, fun j hj => ?_, fun k hk => by rw [x_p_ne (by omega), x_p_ne (by omega), x_p_ne (by omega)]; exact v4 k hk, by rw [x_p_ne (by omega)]; exact v5⟩
  rw [x_p_ne (by omega), x_p_ne (by omega), x_p_ne (by omega), x_p_ne (by omega), x_p_ne (by omega)]; exact v3 j hj
theorem v_m10 {d : xd} {o n q : Nat} {v : Int32} {i : Nat} (h : r_V d o n q) (hv : v = -1 ∨ ∃ w, w < n ∧ v = nI w) : r_V (x_p d (o + 10) i v) o n q := by
  obtain ⟨v1, v2, v3, v4, v5⟩ := h
  refine ⟨v1, v2, fun j hj => by rw [x_p_ne (by omega), x_p_ne (by omega), x_p_ne (by omega), x_p_ne (by omega), x_p_ne (by omega)]; exact v3 j hj, fun k hk => ?_, by rw [x_p_ne (by omega)]; exact v5⟩
  obtain ⟨a10, a11, a12⟩ := v4 k hk
  by_cases e : k = i
  · subst e
    exact ⟨by rw [x_p_at]; exact hv, by rw [x_p_ne (by omega)]; exact a11, by rw [x_p_ne (by omega)]; exact a12⟩
  · exact ⟨by rw [x_p_row e]; exact a10, by rw [x_p_ne (by omega)]; exact a11, by rw [x_p_ne (by omega)]; exact a12⟩
theorem v_m11 {d : xd} {o n q : Nat} {v : Int32} {i : Nat} (h : r_V d o n q) (hv : v = 0 ∨ v = 1) : r_V (x_p d (o + 11) i v) o n q := by
  obtain ⟨v1, v2, v3, v4, v5⟩ := h
  refine ⟨v1, v2, fun j hj => by rw [x_p_ne (by omega), x_p_ne (by omega), x_p_ne (by omega), x_p_ne (by omega), x_p_ne (by omega)]; exact v3 j hj, fun k hk => ?_, by rw [x_p_ne (by omega)]; exact v5⟩
  obtain ⟨a10, a11, a12⟩ := v4 k hk
  by_cases e : k = i
  · subst e
    exact ⟨by rw [x_p_ne (by omega)]; exact a10, by rw [x_p_at]; exact hv, by rw [x_p_ne (by omega)]; exact a12⟩
  · exact ⟨by rw [x_p_ne (by omega)]; exact a10, by rw [x_p_row e]; exact a11, by rw [x_p_ne (by omega)]; exact a12⟩
theorem v_m12 {d : xd} {o n q : Nat} {v : Int32} {i : Nat} (h : r_V d o n q) (hv : ∃ a, a ≤ 3 ∧ v = nI a) : r_V (x_p d (o + 12) i v) o n q := by
  obtain ⟨v1, v2, v3, v4, v5⟩ := h
  refine ⟨v1, v2, fun j hj => by rw [x_p_ne (by omega), x_p_ne (by omega), x_p_ne (by omega), x_p_ne (by omega), x_p_ne (by omega)]; exact v3 j hj, fun k hk => ?_, by rw [x_p_ne (by omega)]; exact v5⟩
  obtain ⟨a10, a11, a12⟩ := v4 k hk
  by_cases e : k = i
  · subst e
    exact ⟨by rw [x_p_ne (by omega)]; exact a10, by rw [x_p_ne (by omega)]; exact a11, by rw [x_p_at]; exact hv⟩
  · exact ⟨by rw [x_p_ne (by omega)]; exact a10, by rw [x_p_ne (by omega)]; exact a11, by rw [x_p_row e]; exact a12⟩
theorem v_b1 {d : xd} {o n q : Nat} {v : Int32} (h : r_V d o n q) (hv : ∃ a, a ≤ 99 ∧ v = nI a) : r_V (x_p d (o + 13) 1 v) o n q := by
  obtain ⟨v1, v2, v3, v4, v5⟩ := h
  exact ⟨v1, v2, fun j hj => by rw [x_p_ne (by omega), x_p_ne (by omega), x_p_ne (by omega), x_p_ne (by omega), x_p_ne (by omega)]; exact v3 j hj, fun k hk => by rw [x_p_ne (by omega), x_p_ne (by omega), x_p_ne (by omega)]; exact v4 k hk, by rw [x_p_at]; exact hv⟩
theorem v_bx {d : xd} {o n q : Nat} {v : Int32} {j : Nat} (h : r_V d o n q) (hj9 : j ≠ 1) : r_V (x_p d (o + 13) j v) o n q := by
  obtain ⟨v1, v2, v3, v4, v5⟩ := h
  exact ⟨v1, v2, fun j hj => by rw [x_p_ne (by omega), x_p_ne (by omega), x_p_ne (by omega), x_p_ne (by omega), x_p_ne (by omega)]; exact v3 j hj, fun k hk => by rw [x_p_ne (by omega), x_p_ne (by omega), x_p_ne (by omega)]; exact v4 k hk, by rw [x_p_row (Ne.symm hj9)]; exact v5⟩
theorem v_n {d : xd} {o n q : Nat} {v : Int32} (h : r_V d o n q) (hn : n < 8) (hl : (∃ a, a < 4 ∧ d (o + 2) n = nI a) ∧ (∃ a, 1 ≤ a ∧ a ≤ 9 ∧ d (o + 3) n = nI a) ∧ (∃ a, 1 ≤ a ∧ a ≤ 5 ∧ d (o + 4) n = nI a) ∧ (∃ a, a ≤ 60 ∧ d (o + 6) n = nI a) ∧ (∃ a, a ≤ 9 ∧ d (o + 7) n = nI a)) : r_V (x_p d (o + 1) 0 v) o (n + 1) q := by
  obtain ⟨v1, v2, v3, v4, v5⟩ := h
  refine ⟨hn, v2, fun j hj => ?_, fun k hk => ?_, by rw [x_p_ne (by omega)]; exact v5⟩
  · rw [x_p_ne (by omega), x_p_ne (by omega), x_p_ne (by omega), x_p_ne (by omega), x_p_ne (by omega)]
    rcases Nat.lt_or_ge j n with y | y
    · exact v3 j y
    · have e : j = n := by omega
      subst e
      exact hl
  · rw [x_p_ne (by omega), x_p_ne (by omega), x_p_ne (by omega)]
    obtain ⟨a1, a2, a3⟩ := v4 k hk
    refine ⟨?_, a2, a3⟩
    rcases a1 with a1 | ⟨w, hw, a1⟩
    · exact Or.inl a1
    · exact Or.inr ⟨w, by omega, a1⟩
theorem v_q {d : xd} {o n q : Nat} {v : Int32} (h : r_V d o n q) (hq : q < 6) (hl : (d (o + 10) q = -1 ∨ ∃ w, w < n ∧ d (o + 10) q = nI w) ∧ (d (o + 11) q = 0 ∨ d (o + 11) q = 1) ∧ (∃ a, a ≤ 3 ∧ d (o + 12) q = nI a)) : r_V (x_p d (o + 9) 0 v) o n (q + 1) := by
  obtain ⟨v1, v2, v3, v4, v5⟩ := h
  refine ⟨v1, hq, fun j hj => ?_, fun k hk => ?_, by rw [x_p_ne (by omega)]; exact v5⟩
  · rw [x_p_ne (by omega), x_p_ne (by omega), x_p_ne (by omega), x_p_ne (by omega), x_p_ne (by omega)]
    exact v3 j hj
  · rw [x_p_ne (by omega), x_p_ne (by omega), x_p_ne (by omega)]
    rcases Nat.lt_or_ge k q with y | y
    · exact v4 k y
    · have e : k = q := by omega
      subst e
      exact hl
/-- money and balance: what they rest on -/
theorem m_cong {d d2 : xd} {o n B B2 : Nat} (h : r_M d o n B) (h8 : ∀ i, i < n → d2 (o + 8) i = d (o + 8) i) (h2 : d2 (o + 13) 2 = d (o + 13) 2) (hB : B ≤ B2) : r_M d2 o n B2 := by
  obtain ⟨b, t, a1, a2, a3⟩ := h
  exact ⟨b, t, fun i hi => (h8 i hi).trans (a1 i hi), h2.trans a2, by omega⟩
theorem b_cong {d d2 : xd} {o n : Nat} (h : f_bal d o n) (h6 : ∀ i, i < n → d2 (o + 6) i = d (o + 6) i) (h7 : ∀ i, i < n → d2 (o + 7) i = d (o + 7) i) (h8 : ∀ i, i < n → d2 (o + 8) i = d (o + 8) i) (h13 : ∀ j, j ≠ 3 → d2 (o + 13) j = d (o + 13) j) : f_bal d2 o n := by
  unfold f_bal
  rw [f_sum_cong h6, f_sum_cong h7, f_sum_cong h8, h13 0 (by omega), h13 1 (by omega), h13 2 (by omega), h13 4 (by omega), h13 5 (by omega), h13 6 (by omega), h13 7 (by omega), h13 8 (by omega), h13 9 (by omega)]
  exact h
/-! the changes -/
theorem t_add {B : Nat} {d : xd} {o n q : Nat} {z : Nat → Int32} (h : r_T B d o z n q) {a b : Int32} (h8 : n < 8) (ha : ∃ a2, a2 < 4 ∧ a = nI a2) (hb : ∃ b2, 1 ≤ b2 ∧ b2 ≤ 9 ∧ b = nI b2) : r_T B (f_app d o n a b) o (g_adds z a b n) (n + 1) q := by
  obtain ⟨e, v, m9, bl⟩ := h
  have hn := v.1
  have hq := v.2.1
  have n0 : nI 0 = 0 := nI_0
  unfold f_app g_adds
  refine ⟨?_, ?_, ?_, ?_⟩
  · refine e_n (e_l8 (e_l7 (e_l6 (e_l5 (by decide) (e_l4 (e_l3 (e_l2 e hn hq h8) hn hq h8) hn hq h8) hn hq h8) hn hq h8) hn hq h8) hn hq h8) ?_ h8 hq
    refine ⟨?_, ?_, ?_, Or.inl ⟨?_, ?_⟩, ?_, ?_, ?_⟩
    · rw [x_p_ne (by omega), x_p_ne (by omega), x_p_ne (by omega), x_p_ne (by omega), x_p_ne (by omega), x_p_ne (by omega), x_p_at, x_upd_ne (by omega), x_upd_ne (by omega), x_upd_ne (by omega), x_upd_ne (by omega), x_upd_ne (by omega), x_upd_ne (by omega), x_upd_at]
    · rw [x_p_ne (by omega), x_p_ne (by omega), x_p_ne (by omega), x_p_ne (by omega), x_p_ne (by omega), x_p_at, x_upd_ne (by omega), x_upd_ne (by omega), x_upd_ne (by omega), x_upd_ne (by omega), x_upd_ne (by omega), x_upd_at]
    · rw [x_p_ne (by omega), x_p_ne (by omega), x_p_ne (by omega), x_p_ne (by omega), x_p_at, x_upd_ne (by omega), x_upd_ne (by omega), x_upd_ne (by omega), x_upd_ne (by omega), x_upd_at]
    · rw [x_p_ne (by omega), x_p_ne (by omega), x_p_ne (by omega), x_p_at]
      decide
    · rw [x_upd_ne (by omega), x_upd_ne (by omega), x_upd_ne (by omega), x_upd_at]
    · rw [x_p_ne (by omega), x_p_ne (by omega), x_p_at, x_upd_ne (by omega), x_upd_ne (by omega), x_upd_at]
    · rw [x_p_ne (by omega), x_p_at, x_upd_ne (by omega), x_upd_at]
    · rw [x_p_at, x_upd_at]
  · refine v_n (v_l8 (v_l7 (v_l6 (v_l5 (v_l4 (v_l3 (v_l2 v ha) hb) ⟨1, by omega, by omega, rfl⟩)) ⟨0, by omega, rfl⟩) ⟨0, by omega, rfl⟩)) h8 ?_
    refine ⟨?_, ?_, ?_, ?_, ?_⟩
    · rw [x_p_ne (by omega), x_p_ne (by omega), x_p_ne (by omega), x_p_ne (by omega), x_p_ne (by omega), x_p_ne (by omega), x_p_at]; exact ha
    · rw [x_p_ne (by omega), x_p_ne (by omega), x_p_ne (by omega), x_p_ne (by omega), x_p_ne (by omega), x_p_at]; exact hb
    · rw [x_p_ne (by omega), x_p_ne (by omega), x_p_ne (by omega), x_p_ne (by omega), x_p_at]; exact ⟨1, by omega, by omega, rfl⟩
    · rw [x_p_ne (by omega), x_p_ne (by omega), x_p_at]; exact ⟨0, by omega, rfl⟩
    · rw [x_p_ne (by omega), x_p_at]; exact ⟨0, by omega, rfl⟩
  · obtain ⟨w, t, h1, h2, h3⟩ := m9
    refine ⟨fun j => if j < n then w j else 0, t, fun i hi => ?_, ?_, ?_⟩
    · show _ = nI (if i < n then w i else 0)
      rw [x_p_ne (by omega)]
      rcases Nat.lt_or_ge i n with y | y
      · rw [x_p_row (by omega), x_p_ne (by omega), x_p_ne (by omega), x_p_ne (by omega), x_p_ne (by omega), x_p_ne (by omega), x_p_ne (by omega), if_pos y]
        exact h1 i y
      · have e9 : i = n := by omega
        subst e9
        rw [if_neg (Nat.lt_irrefl i), x_p_at]
        exact n0.symm
    · rw [x_p_ne (by omega), x_p_ne (by omega), x_p_ne (by omega), x_p_ne (by omega), x_p_ne (by omega), x_p_ne (by omega), x_p_ne (by omega), x_p_ne (by omega)]
      exact h2
    · rw [f_sn, f_sn_cong (f := fun j => if j < n then w j else 0) (g := w) (fun j hj => if_pos hj), if_neg (Nat.lt_irrefl n)]
      omega
  · have r6 := f_sum_s0 (f := f_app d o n a b (o + 6)) (g := d (o + 6)) (n := n) (fun j hj => by unfold f_app; rw [x_p_ne (by omega), x_p_ne (by omega), x_p_ne (by omega), x_p_row (by omega), x_p_ne (by omega), x_p_ne (by omega), x_p_ne (by omega), x_p_ne (by omega)]) (by unfold f_app; rw [x_p_ne (by omega), x_p_ne (by omega), x_p_ne (by omega), x_p_at])
    have r7 := f_sum_s0 (f := f_app d o n a b (o + 7)) (g := d (o + 7)) (n := n) (fun j hj => by unfold f_app; rw [x_p_ne (by omega), x_p_ne (by omega), x_p_row (by omega), x_p_ne (by omega), x_p_ne (by omega), x_p_ne (by omega), x_p_ne (by omega), x_p_ne (by omega)]) (by unfold f_app; rw [x_p_ne (by omega), x_p_ne (by omega), x_p_at])
    have r8 := f_sum_s0 (f := f_app d o n a b (o + 8)) (g := d (o + 8)) (n := n) (fun j hj => by unfold f_app; rw [x_p_ne (by omega), x_p_row (by omega), x_p_ne (by omega), x_p_ne (by omega), x_p_ne (by omega), x_p_ne (by omega), x_p_ne (by omega), x_p_ne (by omega)]) (by unfold f_app; rw [x_p_ne (by omega), x_p_at])
    have r13 : f_app d o n a b (o + 13) = d (o + 13) := by unfold f_app; rw [x_p_ne (by omega), x_p_ne (by omega), x_p_ne (by omega), x_p_ne (by omega), x_p_ne (by omega), x_p_ne (by omega), x_p_ne (by omega), x_p_ne (by omega)]
    show f_bal (f_app d o n a b) o (n + 1)
    unfold f_bal
    rw [r6, r7, r8, r13]
    exact bl

