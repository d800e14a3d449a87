/-! deliveries, dividends, a lamp gone -/
theorem s_cnt {r : Nat → Nat} {n : Nat} (hr : ∀ j, j < n → r j < 100000) : ∀ t, t ≤ n → f_sn (fun i => if g_ah r i n < t then 1 else 0) n = t
  | 0, _ => by
    have h : ∀ m, f_sn (fun i => if g_ah r i n < 0 then 1 else 0) m = 0 := by
      intro m
      induction m with
      | zero => rfl
      | succ m ih => rw [f_sn, ih, if_neg (Nat.not_lt_zero _)]
    exact h n
  | t + 1, ht => by
    have ih := s_cnt hr t (by omega)
    have h1 := s_ord (R := fun j => nI (r j)) (r := r) (n := n) (fun _ _ => rfl) hr n (Nat.le_refl n) t (by omega)
    have h2 := f_ord_lt (fun j => nI (r j)) n t (by omega)
    generalize f_ord (fun j => nI (r j)) n t = k at h1 h2
    have y := f_sn_upd (f := fun i => if g_ah r i n < t then 1 else 0) (g := fun i => if g_ah r i n < t + 1 then 1 else 0) h2 (fun j hj hjk => by
      have e2 : ¬ g_ah r j n = t := fun z => hjk (s_inj hj h2 (z.trans h1.symm))
      show (if g_ah r j n < t + 1 then 1 else 0) = if g_ah r j n < t then 1 else 0
      by_cases z : g_ah r j n < t
      · rw [if_pos z, if_pos (show g_ah r j n < t + 1 by omega)]
      · rw [if_neg z, if_neg (show ¬ g_ah r j n < t + 1 by omega)])
    rw [ih] at y
    have y1 : (if g_ah r k n < t then 1 else 0) = 0 := if_neg (by omega)
    have y2 : (if g_ah r k n < t + 1 then 1 else 0) = 1 := if_pos (by omega)
    have y : f_sn (fun i => if g_ah r i n < t + 1 then 1 else 0) n + (if g_ah r k n < t then 1 else 0) = t + (if g_ah r k n < t + 1 then 1 else 0) := y
    rw [y1, y2] at y
    exact y
theorem f_sn_add {f g : Nat → Nat} : ∀ n, f_sn (fun i => f i + g i) n = f_sn f n + f_sn g n
  | 0 => rfl
  | n + 1 => by
    rw [f_sn, f_sn, f_sn, f_sn_add n]
    omega
theorem f_sum_add {f g : Nat → Int32} : ∀ n, f_sum (fun i => f i + g i) n = f_sum f n + f_sum g n
  | 0 => by rw [f_sum, f_sum, f_sum]; rfl
  | n + 1 => by
    rw [f_sum, f_sum, f_sum, f_sum_add n]
    grind
theorem s_por_sum {a0 n : Nat} {sh : Nat → Nat} (h8 : n ≤ 8) (hs9 : ∀ j, j < n → sh j ≤ 9) (hS : 1 ≤ f_sn sh n) : f_sn (g_por a0 sh n) n = a0 := by
  have h1 := s_cnt (r := f_rt a0 sh n) (n := n) (fun j _ => s_rt_lt hS (s_sn_le h8 hs9) j) (a0 - f_sn (f_qt a0 sh n) n) (x_left hS)
  have h2 : f_sn (g_por a0 sh n) n = f_sn (f_qt a0 sh n) n + f_sn (fun i => if g_ah (f_rt a0 sh n) i n < a0 - f_sn (f_qt a0 sh n) n then 1 else 0) n := f_sn_add n
  have h3 := x_qsum (a0 := a0) (s := sh) (n := n) (i := n) hS (Nat.le_refl n)
  rw [h2, h1]
  omega
theorem s_por_le {a0 n : Nat} {sh : Nat → Nat} (h8 : n ≤ 8) (hs9 : ∀ j, j < n → sh j ≤ 9) (hS : 1 ≤ f_sn sh n) {i : Nat} (hi : i < n) : g_por a0 sh n i ≤ a0 := by
  have h := s_por_sum (a0 := a0) h8 hs9 hS
  have y := x_sn_mono (g_por a0 sh n) (i := i + 1) (n := n) hi
  rw [f_sn] at y
  omega
theorem g_add_is {z : Nat → Int32} {b : Nat → Nat} {k a : Nat} (h : z (38 + k) = nI a) (ha : a ≤ 60) (hb : b k < 100000) : g_add z b k = nI (min (b k) (60 - a)) := by
  unfold g_add
  rw [h, show (60 : Int32) = nI 60 from rfl, pk_sub ha]
  by_cases y : b k < 60 - a
  · rw [if_pos ((nI_ltI (by omega) (by omega)).mpr y), show min (b k) (60 - a) = b k by omega]
  · rw [if_neg (fun w => y ((nI_ltI (by omega) (by omega)).mp w)), show min (b k) (60 - a) = 60 - a by omega]
theorem f_fit_is {f p z : Nat → Int32} {b : Nat → Nat} {k : Nat} (h : f k = z (38 + k)) (hp : p k = nI (b k)) : f_fit f p k = g_add z b k := by
  unfold f_fit g_add
  rw [h, hp, x_minmax]
theorem g_res_is {z : Nat → Int32} {b : Nat → Nat} : ∀ n, g_res z b n = z 3 + (f_sum (fun k => nI (b k)) n - f_sum (g_add z b) n)
  | 0 => by rw [g_res, f_sum, f_sum]; grind
  | n + 1 => by
    rw [g_res, g_res_is n, f_sum, f_sum]
    grind
theorem r_sh {d : xd} {o n q : Nat} (v : r_V d o n q) : ∃ sh : Nat → Nat, (∀ j, j < n → d (o + 3) j = nI (sh j)) ∧ (∀ j, j < n → sh j ≤ 9) ∧ (1 ≤ n → 1 ≤ f_sn sh n) := by
  obtain ⟨v1, v2, v3, v4, v5⟩ := v
  refine ⟨fun j => (d (o + 3) j).toNatClampNeg, fun j hj => ?_, fun j hj => ?_, fun h1 => ?_⟩
  · obtain ⟨-, ⟨a, a1, a2, a3⟩, -⟩ := v3 j hj
    show d (o + 3) j = nI (d (o + 3) j).toNatClampNeg
    rw [a3, nI_clamp (by omega)]
  · obtain ⟨-, ⟨a, a1, a2, a3⟩, -⟩ := v3 j hj
    show (d (o + 3) j).toNatClampNeg ≤ 9
    rw [a3, nI_clamp (by omega)]
    exact a2
  · obtain ⟨-, ⟨a, a1, a2, a3⟩, -⟩ := v3 0 (by omega)
    have y := x_sn_mono (fun j => (d (o + 3) j).toNatClampNeg) (i := 1) (n := n) h1
    have y2 : f_sn (fun j => (d (o + 3) j).toNatClampNeg) 1 = a := by
      rw [f_sn, f_sn]
      show 0 + (d (o + 3) 0).toNatClampNeg = a
      rw [a3, nI_clamp (by omega)]
      omega
    omega
theorem f_pour_out {d : xd} {a o n a0 k : Nat} {sh : Nat → Nat} (h : k < a + 1 ∨ a + 3 < k) (h6 : k ≠ o + 6) (h13 : k ≠ o + 13) : f_pour d a o n a0 sh k = d k := by
  unfold f_pour
  rw [x_p_ne h13, x_p_ne h13, x_r_ne2 h6, f_dbs_out h]
theorem t_pour {B : Nat} {d : xd} {a o n q a0 : Nat} {z : Nat → Int32} {sh : Nat → Nat} (h : r_T B d o z n q) (hao : o + 14 ≤ a) (hs : ∀ j, j < n → d (o + 3) j = nI (sh j)) (hs9 : ∀ j, j < n → sh j ≤ 9) (hS : 1 ≤ f_sn sh n) (ha0 : a0 < 100000) :
    r_T B (f_pour d a o n a0 sh) o (g_dl z (g_por a0 sh n) n) n q ∧ f_sum (f_fit (d (o + 6)) (f_por d a n a0 sh)) n = f_sum (g_add z (g_por a0 sh n)) n := by
  obtain ⟨e, v, m9, bl⟩ := h
  have hn := v.1
  have hq := v.2.1
  have y0 : ∀ k, k < a + 1 ∨ a + 3 < k → k ≠ o + 6 → k ≠ o + 13 → f_pour d a o n a0 sh k = d k := fun k h1 h2 h3 => f_pour_out h1 h2 h3
  obtain ⟨e1, e2, e3, e4, e5, e6, e70, e71, e72, e73⟩ := e
  obtain ⟨v1, v2, v3, v4, v5⟩ := v
  have hp : ∀ j, j < n → f_por d a n a0 sh j = nI (g_por a0 sh n j) := fun j hj => s_por hn hs9 hS hj
  have hf : ∀ j, j < n → f_fit (d (o + 6)) (f_por d a n a0 sh) j = g_add z (g_por a0 sh n) j := fun j hj => f_fit_is (e5 j hj).2.2.2.2.1 (hp j hj)
  have hsum : f_sum (fun k => nI (g_por a0 sh n k)) n = nI a0 := by rw [x_sumN (s := g_por a0 sh n) n (fun j _ => rfl), s_por_sum hn hs9 hS]
  have hfs := f_sum_cong hf
  have p6 : ∀ j, j < n → f_pour d a o n a0 sh (o + 6) j = d (o + 6) j + g_add z (g_por a0 sh n) j := fun j hj => by
    unfold f_pour
    rw [x_p_ne (by omega), x_p_ne (by omega), x_r_same]
    unfold f_fill
    rw [if_pos hj]
    show d (o + 6) j + f_fit (d (o + 6)) (f_por d a n a0 sh) j = _
    rw [hf j hj]
  have p13 : ∀ j, f_pour d a o n a0 sh (o + 13) j = if j = 4 then d (o + 13) 4 + nI a0 else if j = 0 then d (o + 13) 0 + (nI a0 - f_sum (g_add z (g_por a0 sh n)) n) else d (o + 13) j := fun j => by
    unfold f_pour
    rw [x_prow, x_prow, x_r_ne2 (by omega), f_dbs_out (by omega), hfs]
    rfl
  refine ⟨⟨⟨?_, ?_, ?_, ?_, fun i hi => ?_, fun k hk => ?_, ?_⟩, ⟨v1, v2, fun i hi => ?_, fun k hk => ?_, ?_⟩, m_cong m9 (fun i hi => by rw [y0 _ (by omega) (by omega) (by omega)]) (by rw [p13]; rfl) (Nat.le_refl B), ?_⟩, hfs⟩
  · rw [y0 _ (by omega) (by omega) (by omega)]; exact e1
  · rw [g_dl_out (by omega) (by omega)]; exact e2
  · rw [y0 _ (by omega) (by omega) (by omega)]; exact e3
  · rw [g_dl_out (by omega) (by omega)]; exact e4
  · obtain ⟨a2, a3, a4, a5, a6, a7, a8⟩ := e5 i hi
    refine ⟨?_, ?_, ?_, ?_, ?_, ?_, ?_⟩
    · rw [y0 _ (by omega) (by omega) (by omega), g_dl_out (by omega) (by omega)]; exact a2
    · rw [y0 _ (by omega) (by omega) (by omega), g_dl_out (by omega) (by omega)]; exact a3
    · rw [y0 _ (by omega) (by omega) (by omega), g_dl_out (by omega) (by omega)]; exact a4
    · rw [y0 _ (by omega) (by omega) (by omega), g_dl_out (by omega) (by omega)]; exact a5
    · rw [p6 i hi, a6]
      unfold g_dl
      rw [if_neg (show ¬ 38 + i = 3 by omega), if_pos (show 38 ≤ 38 + i ∧ 38 + i < 38 + n by omega), show 38 + i - 38 = i by omega]
    · rw [y0 _ (by omega) (by omega) (by omega), g_dl_out (by omega) (by omega)]; exact a7
    · rw [y0 _ (by omega) (by omega) (by omega), g_dl_out (by omega) (by omega)]; exact a8
  · rw [y0 _ (by omega) (by omega) (by omega), y0 _ (by omega) (by omega) (by omega), y0 _ (by omega) (by omega) (by omega), g_dl_out (by omega) (by omega), g_dl_out (by omega) (by omega), g_dl_out (by omega) (by omega)]
    exact e6 k hk
  · rw [p13, p13, p13, p13, g_dl_3, g_dl_out (by omega) (by omega), g_dl_out (by omega) (by omega), g_dl_out (by omega) (by omega), g_res_is, hsum]
    refine ⟨e70, ?_, e72, e73⟩
    show d (o + 13) 0 + _ = _
    rw [e71]
  · obtain ⟨a2, a3, a4, ⟨w, w1, w2⟩, a7⟩ := v3 i hi
    refine ⟨?_, ?_, ?_, ?_, ?_⟩
    · rw [y0 _ (by omega) (by omega) (by omega)]; exact a2
    · rw [y0 _ (by omega) (by omega) (by omega)]; exact a3
    · rw [y0 _ (by omega) (by omega) (by omega)]; exact a4
    · have hz : z (38 + i) = nI w := (e5 i hi).2.2.2.2.1.symm.trans w2
      rw [p6 i hi, w2, g_add_is hz w1 (by have := s_por_le (a0 := a0) hn hs9 hS hi; omega), nI_add]
      exact ⟨_, by omega, rfl⟩
    · rw [y0 _ (by omega) (by omega) (by omega)]; exact a7
  · rw [y0 _ (by omega) (by omega) (by omega), y0 _ (by omega) (by omega) (by omega), y0 _ (by omega) (by omega) (by omega)]
    exact v4 k hk
  · rw [p13]; exact v5
  · obtain ⟨b1, b2, b3⟩ := bl
    unfold f_bal
    rw [f_sum_cong p6, f_sum_add, y0 (o + 7) (by omega) (by omega) (by omega), y0 (o + 8) (by omega) (by omega) (by omega)]
    simp only [p13]
    simp
    refine ⟨?_, b2, b3⟩
    grind
theorem f_shr_out {d : xd} {a o n a0 k : Nat} {sh : Nat → Nat} (h : k < a + 1 ∨ a + 3 < k) (h8 : k ≠ o + 8) (h13 : k ≠ o + 13) : f_shr d a o n a0 sh k = d k := by
  unfold f_shr
  rw [x_p_ne h13, x_r_ne2 h8, f_dbs_out h]
theorem t_pay {B : Nat} {d : xd} {a o n q a0 : Nat} {z : Nat → Int32} {sh : Nat → Nat} (h : r_T B d o z n q) (hao : o + 14 ≤ a) (hs : ∀ j, j < n → d (o + 3) j = nI (sh j)) (hs9 : ∀ j, j < n → sh j ≤ 9) (hS : 1 ≤ f_sn sh n) (ha0 : a0 < 100000) (ht : d (o + 13) 2 = nI a0) (hB : B < 100000) :
    r_T B (f_shr d a o n a0 sh) o (upd (g_py z (g_por a0 sh n) n) 5 0) n q := by
  obtain ⟨e, v, m9, bl⟩ := h
  have hn := v.1
  have hq := v.2.1
  have y0 : ∀ k, k < a + 1 ∨ a + 3 < k → k ≠ o + 8 → k ≠ o + 13 → f_shr d a o n a0 sh k = d k := fun k h1 h2 h3 => f_shr_out h1 h2 h3
  obtain ⟨e1, e2, e3, e4, e5, e6, e70, e71, e72, e73⟩ := e
  obtain ⟨v1, v2, v3, v4, v5⟩ := v
  have hp : ∀ j, j < n → f_por d a n a0 sh j = nI (g_por a0 sh n j) := fun j hj => s_por hn hs9 hS hj
  have hsum : f_sum (fun k => nI (g_por a0 sh n k)) n = nI a0 := by rw [x_sumN (s := g_por a0 sh n) n (fun j _ => rfl), s_por_sum hn hs9 hS]
  have p8 : ∀ j, j < n → f_shr d a o n a0 sh (o + 8) j = d (o + 8) j + nI (g_por a0 sh n j) := fun j hj => by
    unfold f_shr
    rw [x_p_ne (by omega), x_r_same]
    unfold f_fill
    rw [if_pos hj]
    show d (o + 8) j + f_por d a n a0 sh j = _
    rw [hp j hj]
  have p13 : ∀ j, f_shr d a o n a0 sh (o + 13) j = if j = 2 then 0 else d (o + 13) j := fun j => by
    unfold f_shr
    rw [x_prow, x_r_ne2 (by omega), f_dbs_out (by omega)]
    rfl
  refine ⟨⟨?_, ?_, ?_, ?_, fun i hi => ?_, fun k hk => ?_, ?_⟩, ⟨v1, v2, fun i hi => ?_, fun k hk => ?_, ?_⟩, ?_, ?_⟩
  · rw [y0 _ (by omega) (by omega) (by omega)]; exact e1
  · rw [x_upd_ne (by omega), g_py_out (by omega)]; exact e2
  · rw [y0 _ (by omega) (by omega) (by omega)]; exact e3
  · rw [x_upd_ne (by omega), g_py_out (by omega)]; exact e4
  · obtain ⟨a2, a3, a4, a5, a6, a7, a8⟩ := e5 i hi
    refine ⟨?_, ?_, ?_, ?_, ?_, ?_, ?_⟩
    · rw [y0 _ (by omega) (by omega) (by omega), x_upd_ne (by omega), g_py_out (by omega)]; exact a2
    · rw [y0 _ (by omega) (by omega) (by omega), x_upd_ne (by omega), g_py_out (by omega)]; exact a3
    · rw [y0 _ (by omega) (by omega) (by omega), x_upd_ne (by omega), g_py_out (by omega)]; exact a4
    · rw [y0 _ (by omega) (by omega) (by omega), x_upd_ne (by omega), g_py_out (by omega)]; exact a5
    · rw [y0 _ (by omega) (by omega) (by omega), x_upd_ne (by omega), g_py_out (by omega)]; exact a6
    · rw [y0 _ (by omega) (by omega) (by omega), x_upd_ne (by omega), g_py_out (by omega)]; exact a7
    · rw [p8 i hi, a8, x_upd_ne (by omega)]
      unfold g_py
      rw [if_pos (show 54 ≤ 54 + i ∧ 54 + i < 54 + n by omega), show 54 + i - 54 = i by omega]
  · rw [y0 _ (by omega) (by omega) (by omega), y0 _ (by omega) (by omega) (by omega), y0 _ (by omega) (by omega) (by omega), x_upd_ne (by omega), x_upd_ne (by omega), x_upd_ne (by omega), g_py_out (by omega), g_py_out (by omega), g_py_out (by omega)]
    exact e6 k hk
  · rw [p13, p13, p13, p13, x_upd_ne (by omega), x_upd_ne (by omega), x_upd_ne (by omega), x_upd_at, g_py_out (by omega), g_py_out (by omega), g_py_out (by omega)]
    exact ⟨e70, e71, e72, rfl⟩
  · rw [y0 (o + 2) (by omega) (by omega) (by omega), y0 (o + 3) (by omega) (by omega) (by omega), y0 (o + 4) (by omega) (by omega) (by omega), y0 (o + 6) (by omega) (by omega) (by omega), y0 (o + 7) (by omega) (by omega) (by omega)]
    exact v3 i hi
  · rw [y0 _ (by omega) (by omega) (by omega), y0 _ (by omega) (by omega) (by omega), y0 _ (by omega) (by omega) (by omega)]
    exact v4 k hk
  · rw [p13]; exact v5
  · obtain ⟨b, t, h1, h2, h3⟩ := m9
    have hta : t = a0 := (nI_eq (by omega) (by omega)).mp (h2.symm.trans ht)
    refine ⟨fun j => b j + g_por a0 sh n j, 0, fun j hj => ?_, by rw [p13]; rfl, ?_⟩
    · rw [p8 j hj, h1 j hj, nI_add]
    · rw [f_sn_add, s_por_sum hn hs9 hS]
      omega
  · obtain ⟨b1, b2, b3⟩ := bl
    unfold f_bal
    rw [f_sum_cong p8, f_sum_add, hsum, y0 (o + 6) (by omega) (by omega) (by omega), y0 (o + 7) (by omega) (by omega) (by omega)]
    simp only [p13]
    simp
    refine ⟨b1, b2, ?_⟩
    rw [← ht]
    exact b3
/-! a lamp gone -/
theorem f_sum_gap {f g : Nat → Int32} {i : Nat} : ∀ {n : Nat}, i < n + 1 → (∀ j, j < i → g j = f j) → (∀ j, i ≤ j → j < n → g j = f (j + 1)) → f_sum g n + f i = f_sum f (n + 1)
  | 0, hi, _, _ => by
    have e : i = 0 := by omega
    subst e
    rfl
  | n + 1, hi, h1, h2 => by
    rcases Nat.lt_or_ge i (n + 1) with y | y
    · have ih := f_sum_gap (n := n) y h1 (fun j a b => h2 j a (by omega))
      rw [f_sum, h2 n (by omega) (by omega), f_sum, ← ih]
      grind
    · have e : i = n + 1 := by omega
      subst e
      rw [f_sum_cong (f := g) (g := f) (fun j hj => h1 j hj)]
      rfl
theorem f_sn_gap {f g : Nat → Nat} {i : Nat} : ∀ {n : Nat}, i < n + 1 → (∀ j, j < i → g j = f j) → (∀ j, i ≤ j → j < n → g j = f (j + 1)) → f_sn g n + f i = f_sn f (n + 1)
  | 0, hi, _, _ => by
    have e : i = 0 := by omega
    subst e
    rfl
  | n + 1, hi, h1, h2 => by
    rcases Nat.lt_or_ge i (n + 1) with y | y
    · have ih := f_sn_gap (n := n) y h1 (fun j a b => h2 j a (by omega))
      rw [f_sn, h2 n (by omega) (by omega), f_sn, ← ih]
      omega
    · have e : i = n + 1 := by omega
      subst e
      rw [f_sn_cong (f := g) (g := f) (fun j hj => h1 j hj)]
      rfl
theorem g_gaps_hi (z : Nat → Int32) {i j : Nat} : ∀ {m : Nat}, 6 + 8 * m ≤ j → g_gaps z i m j = z j
  | 0, _ => rfl
  | m + 1, h => by
    rw [g_gaps, g_cgp_out _ (by omega) (by omega)]
    exact g_gaps_hi z (by omega)
theorem g_gaps_at (z : Nat → Int32) {i : Nat} (hi : i < 8) : ∀ m, m ≤ 7 → ∀ w, w < 7 → ∀ j, j < 7 → g_gaps z i m (6 + 8 * w + j) = if w < m then (if j < i then z (6 + 8 * w + j) else z (6 + 8 * w + j + 1)) else z (6 + 8 * w + j)
  | 0, _, w, _, j, _ => by rw [if_neg (Nat.not_lt_zero w)]; rfl
  | m + 1, hm, w, hw, j, hj => by
    rw [g_gaps]
    unfold g_cgp
    rw [if_neg (show ¬ 6 + 8 * w + j = 6 + 8 * m + 8 - 1 by omega)]
    by_cases y : 6 + 8 * m + i ≤ 6 + 8 * w + j ∧ 6 + 8 * w + j < 6 + 8 * m + 8 - 1
    · have e : w = m := by omega
      subst e
      rw [if_pos y, if_pos (show w < w + 1 by omega), if_neg (show ¬ j < i by omega)]
      rcases Nat.lt_or_ge (j + 1) 7 with q | q
      · rw [show 6 + 8 * w + j + 1 = 6 + 8 * w + (j + 1) by omega, g_gaps_at z hi w (by omega) w hw (j + 1) q, if_neg (Nat.lt_irrefl w)]
      · have e : j = 6 := by omega
        subst e
        rw [g_gaps_hi z (show 6 + 8 * w ≤ 6 + 8 * w + 6 + 1 by omega)]
    · rw [if_neg y, g_gaps_at z hi m (by omega) w hw j hj]
      by_cases q : w < m
      · rw [if_pos q, if_pos (show w < m + 1 by omega)]
      · rw [if_neg q]
        by_cases q2 : w < m + 1
        · have e : w = m := by omega
          subst e
          rw [if_pos q2, if_pos (show j < i by omega)]
        · rw [if_neg q2]

