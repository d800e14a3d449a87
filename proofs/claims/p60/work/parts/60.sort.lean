/-! how many stand ahead: sorting, rounds and counting come to one -/
theorem s_ah_mono {r : Nat → Nat} {a b : Nat} (h : r b < r a ∨ (r a = r b ∧ a < b)) : ∀ k, g_ah r a k ≤ g_ah r b k
  | 0 => Nat.le_refl _
  | k + 1 => by
    have ih := s_ah_mono h k
    rw [g_ah, g_ah]
    by_cases h1 : r a < r k ∨ (r k = r a ∧ k < a)
    · have h2 : r b < r k ∨ (r k = r b ∧ k < b) := by omega
      rw [if_pos h1, if_pos h2]
      omega
    · rw [if_neg h1]
      split <;> omega
theorem s_ah_lt {r : Nat → Nat} {a b : Nat} (h : r b < r a ∨ (r a = r b ∧ a < b)) : ∀ k, a < k → g_ah r a k < g_ah r b k
  | 0, hk => absurd hk (Nat.not_lt_zero a)
  | k + 1, hk => by
    rw [g_ah, g_ah]
    rcases Nat.lt_or_ge a k with z | z
    · have ih := s_ah_lt h k z
      by_cases h1 : r a < r k ∨ (r k = r a ∧ k < a)
      · have h2 : r b < r k ∨ (r k = r b ∧ k < b) := by omega
        rw [if_pos h1, if_pos h2]
        omega
      · rw [if_neg h1]
        split <;> omega
    · have e : a = k := by omega
      subst e
      have ih := s_ah_mono h a
      have h1 : ¬ (r a < r a ∨ (r a = r a ∧ a < a)) := by omega
      rw [if_neg h1, if_pos h]
      omega
theorem s_ah_self {r : Nat → Nat} {i : Nat} : ∀ k, i < k → g_ah r i k < k
  | 0, hk => absurd hk (Nat.not_lt_zero i)
  | k + 1, hk => by
    rw [g_ah]
    rcases Nat.lt_or_ge i k with z | z
    · have ih := s_ah_self (r := r) k z
      split <;> omega
    · have e : i = k := by omega
      subst e
      have h1 : ¬ (r i < r i ∨ (r i = r i ∧ i < i)) := by omega
      have h2 := g_ah_le r i i
      rw [if_neg h1]
      omega
theorem s_inj {r : Nat → Nat} {n a b : Nat} (ha : a < n) (hb : b < n) (h : g_ah r a n = g_ah r b n) : a = b := by
  by_cases e : a = b
  · exact e
  · have q : (r b < r a ∨ (r a = r b ∧ a < b)) ∨ (r a < r b ∨ (r b = r a ∧ b < a)) := by omega
    rcases q with q | q
    · have := s_ah_lt q n ha
      omega
    · have := s_ah_lt q n hb
      omega
theorem s_pos (r : Nat → Int32) (o : Nat → Nat) (i : Nat) : ∀ t, (f_pos r o i t < t → r (o (f_pos r o i t)) < r i) ∧ (0 < f_pos r o i t → ¬ r (o (f_pos r o i t - 1)) < r i)
  | 0 => ⟨fun h => absurd h (Nat.not_lt_zero _), fun h => absurd h (Nat.not_lt_zero _)⟩
  | t + 1 => by
    have ih := s_pos r o i t
    rw [f_pos]
    by_cases h : r (o t) < r i
    · rw [if_pos h]
      refine ⟨fun _ => ?_, ih.2⟩
      rcases Nat.lt_or_ge (f_pos r o i t) t with z | z
      · exact ih.1 z
      · have e : f_pos r o i t = t := Nat.le_antisymm (f_pos_le r o i t) z
        rw [e]
        exact h
    · rw [if_neg h]
      exact ⟨fun z => absurd z (Nat.lt_irrefl _), fun _ => by rw [Nat.add_sub_cancel]; exact h⟩
theorem s_lt {a b : Nat} (ha : a < 100000) (hb : b < 100000) : nI a < nI b ↔ a < b := nI_ltI (by omega) (by omega)
theorem s_ord {R : Nat → Int32} {r : Nat → Nat} {n : Nat} (hR : ∀ j, j < n → R j = nI (r j)) (hr : ∀ j, j < n → r j < 100000) : ∀ i, i ≤ n → ∀ j, j < i → g_ah r (f_ord R i j) i = j
  | 0, _, j, hj => absurd hj (Nat.not_lt_zero j)
  | i + 1, hi, j, hj => by
    have ih := s_ord hR hr i (by omega)
    have hlt := f_ord_lt R i
    have hp := f_pos_le R (f_ord R i) i i
    obtain ⟨p1, p2⟩ := s_pos R (f_ord R i) i i
    generalize hpe : f_pos R (f_ord R i) i i = p at hp p1 p2
    have hRi := hR i (by omega)
    have hri := hr i (by omega)
    have hA : g_ah r i i = p := by
      refine Nat.le_antisymm ?_ ?_
      · rcases Nat.lt_or_ge p i with z | z
        · have h1 := p1 z
          have hb := hlt p z
          rw [hRi, hR _ (by omega), s_lt (hr _ (by omega)) hri] at h1
          have h2 := s_ah_mono (r := r) (a := i) (b := f_ord R i p) (Or.inl h1) i
          rw [ih p z] at h2
          exact h2
        · exact Nat.le_trans (g_ah_le r i i) z
      · rcases Nat.eq_zero_or_pos p with z | z
        · omega
        · have h1 := p2 z
          have hb := hlt (p - 1) (by omega)
          rw [hRi, hR _ (by omega), s_lt (hr _ (by omega)) hri] at h1
          have h2 := s_ah_lt (r := r) (a := f_ord R i (p - 1)) (b := i) (by omega) i hb
          rw [ih (p - 1) (by omega)] at h2
          omega
    have hs : ∀ a, a < i → g_ah r a (i + 1) = g_ah r a i + (if r a < r i then 1 else 0) := fun a ha => by
      rw [g_ah]
      by_cases h : r a < r i
      · rw [if_pos (Or.inl h), if_pos h]
      · rw [if_neg (by omega), if_neg h, Nat.add_zero]
    have hq : f_ord R (i + 1) j = if j < p then f_ord R i j else if j = p then i else f_ord R i (j - 1) := by
      rw [f_ord, hpe]
    rw [hq]
    rcases Nat.lt_trichotomy j p with z | z | z
    · rw [if_pos z, hs _ (hlt j (by omega)), ih j (by omega)]
      by_cases h : r (f_ord R i j) < r i
      · have h2 := s_ah_mono (r := r) (a := i) (b := f_ord R i j) (Or.inl h) i
        rw [ih j (by omega), hA] at h2
        omega
      · rw [if_neg h, Nat.add_zero]
    · rw [if_neg (by omega), if_pos z, g_ah, if_neg (by omega), hA, z]
    · rw [if_neg (by omega), if_neg (by omega), hs _ (hlt (j - 1) (by omega)), ih (j - 1) (by omega)]
      by_cases h : r (f_ord R i (j - 1)) < r i
      · rw [if_pos h]
        omega
      · have hb := hlt (j - 1) (by omega)
        have h2 := s_ah_lt (r := r) (a := f_ord R i (j - 1)) (b := i) (by omega) i hb
        rw [ih (j - 1) (by omega), hA] at h2
        omega
/-- each rank has its lamp -/
theorem s_rank {r : Nat → Nat} {n x : Nat} (hr : ∀ j, j < n → r j < 100000) (hx : x < n) : ∃ k, k < n ∧ g_ah r k n = x ∧ ∀ j, j < k → ¬ g_ah r j n = x := by
  have h1 := s_ord (R := fun j => nI (r j)) (r := r) (n := n) (fun _ _ => rfl) hr n (Nat.le_refl n) x hx
  have h2 := f_ord_lt (fun j => nI (r j)) n x hx
  exact ⟨_, h2, h1, fun j hj z => absurd (s_inj (by omega) h2 (z.trans h1.symm)) (by omega)⟩
theorem s_inc {p : Nat → Int32} {ord : Nat → Nat} {r : Nat → Nat} {n : Nat} (ho : ∀ j, j < n → ord j < n ∧ g_ah r (ord j) n = j) {i : Nat} (hi : i < n) : ∀ t, t ≤ n → f_inc p ord t i = if g_ah r i n < t then p i + 1 else p i
  | 0, _ => rfl
  | t + 1, ht => by
    have ih := s_inc (p := p) ho hi t (by omega)
    obtain ⟨h1, h2⟩ := ho t (by omega)
    rw [f_inc]
    by_cases e : i = ord t
    · rw [e] at ih ⊢
      rw [h2] at ih ⊢
      rw [if_neg (Nat.lt_irrefl t)] at ih
      rw [if_pos (Nat.lt_succ_self t)]
      simp only [upd, if_true]
      rw [ih]
    · have e2 : ¬ g_ah r i n = t := fun z => e (s_inj hi h1 (z.trans h2.symm))
      simp only [upd, if_neg e]
      rw [ih]
      by_cases z : g_ah r i n < t
      · rw [if_pos z, if_pos (by omega)]
      · rw [if_neg z, if_neg (by omega)]
theorem s_bst (f : Nat → Int32) : ∀ m, (∀ j, j ≤ m → f j ≤ f (f_bst f m)) ∧ (∀ j, j < f_bst f m → f j < f (f_bst f m))
  | 0 => ⟨fun j hj => by have e : j = 0 := by omega
                         subst e; exact Int32.le_refl _, fun j hj => absurd hj (Nat.not_lt_zero j)⟩
  | m + 1 => by
    obtain ⟨h1, h2⟩ := s_bst f m
    rw [f_bst]
    by_cases h : f (f_bst f m) < f (m + 1)
    · rw [if_pos h]
      refine ⟨fun j hj => ?_, fun j hj => ?_⟩
      · rcases Nat.lt_or_ge j (m + 1) with z | z
        · exact Int32.le_trans (h1 j (by omega)) (Int32.le_of_lt h)
        · have e : j = m + 1 := by omega
          subst e; exact Int32.le_refl _
      · exact Int32.lt_of_le_of_lt (h1 j (by omega)) h
    · rw [if_neg h]
      refine ⟨fun j hj => ?_, h2⟩
      rcases Nat.lt_or_ge j (m + 1) with z | z
      · exact h1 j (by omega)
      · have e : j = m + 1 := by omega
        subst e
        exact Int32.not_lt.mp h
theorem s_bst_is {f : Nat → Int32} {m k : Nat} (hk : k ≤ m) (h1 : ∀ j, j ≤ m → f j ≤ f k) (h2 : ∀ j, j < k → f j < f k) : f_bst f m = k := by
  obtain ⟨b1, b2⟩ := s_bst f m
  rcases Nat.lt_trichotomy (f_bst f m) k with z | z | z
  · exact absurd (h2 _ z) (Int32.not_lt.mpr (b1 k hk))
  · exact z
  · exact absurd (b2 _ z) (Int32.not_lt.mpr (h1 _ (f_bst_le f m)))
theorem s_m1 {a : Nat} (ha : a < 100000) : (-1 : Int32) < nI a := by
  rw [Int32.lt_iff_toInt_lt, nI_toInt (by omega)]
  have e : (-1 : Int32).toInt = -1 := by decide
  rw [e]
  omega
theorem s_rr {R : Nat → Int32} {r : Nat → Nat} {m : Nat} (hR : ∀ j, j < m + 1 → R j = nI (r j)) (hr : ∀ j, j < m + 1 → r j < 100000) : ∀ t, t ≤ m + 1 →
    (∀ j, j < m + 1 → f_rr R m t j = if g_ah r j (m + 1) < t then -1 else nI (r j)) ∧ (t < m + 1 → f_bst (f_rr R m t) m < m + 1 ∧ g_ah r (f_bst (f_rr R m t) m) (m + 1) = t) := by
  have step : ∀ t, t < m + 1 → (∀ j, j < m + 1 → f_rr R m t j = if g_ah r j (m + 1) < t then -1 else nI (r j)) → f_bst (f_rr R m t) m < m + 1 ∧ g_ah r (f_bst (f_rr R m t) m) (m + 1) = t := by
    intro t ht h
    have k1 := s_ord hR hr (m + 1) (Nat.le_refl _) t ht
    have k2 := f_ord_lt R (m + 1) t ht
    generalize f_ord R (m + 1) t = k at k1 k2
    have hk : f_rr R m t k = nI (r k) := by rw [h k k2, if_neg (by omega)]
    have key : ∀ j, j < m + 1 → j ≠ k → f_rr R m t j ≤ f_rr R m t k ∧ (j < k → f_rr R m t j < f_rr R m t k) := by
      intro j hj hjk
      rw [hk, h j hj]
      by_cases z : g_ah r j (m + 1) < t
      · rw [if_pos z]
        exact ⟨Int32.le_of_lt (s_m1 (hr k k2)), fun _ => s_m1 (hr k k2)⟩
      · rw [if_neg z]
        have q : ¬ (r k < r j ∨ (r j = r k ∧ j < k)) := fun y => by
          have := s_ah_lt y (m + 1) hj
          omega
        refine ⟨nI_le (by omega) (by have := hr k k2; omega), fun y => nI_lt (by omega) (by have := hr k k2; omega)⟩
    have e : f_bst (f_rr R m t) m = k := s_bst_is (by omega) (fun j hj => by
      by_cases e : j = k
      · rw [e]; exact Int32.le_refl _
      · exact (key j (by omega) e).1) (fun j hj => (key j (by omega) (by omega)).2 hj)
    rw [e]
    exact ⟨k2, k1⟩
  intro t
  induction t with
  | zero =>
    intro _
    have h : ∀ j, j < m + 1 → f_rr R m 0 j = if g_ah r j (m + 1) < 0 then -1 else nI (r j) := fun j hj => by
      rw [if_neg (Nat.not_lt_zero _)]
      exact hR j hj
    exact ⟨h, fun ht => step 0 ht h⟩
  | succ t ih =>
    intro ht
    obtain ⟨h0, h1⟩ := ih (by omega)
    obtain ⟨b1, b2⟩ := h1 (by omega)
    have h : ∀ j, j < m + 1 → f_rr R m (t + 1) j = if g_ah r j (m + 1) < t + 1 then -1 else nI (r j) := fun j hj => by
      rw [f_rr]
      by_cases e : j = f_bst (f_rr R m t) m
      · rw [e, b2, if_pos (Nat.lt_succ_self t)]
        simp [upd]
      · have e2 : ¬ g_ah r j (m + 1) = t := fun z => e (s_inj hj b1 (z.trans b2.symm))
        simp only [upd, if_neg e]
        rw [h0 j hj]
        by_cases z : g_ah r j (m + 1) < t
        · rw [if_pos z, if_pos (by omega)]
        · rw [if_neg z, if_neg (by omega)]
    exact ⟨h, fun ht2 => step (t + 1) ht2 h⟩
theorem s_rt_lt {a0 : Nat} {sh : Nat → Nat} {n : Nat} (hS : 1 ≤ f_sn sh n) (h72 : f_sn sh n ≤ 100) (j : Nat) : f_rt a0 sh n j < 100000 := by
  have : f_rt a0 sh n j < f_sn sh n := Nat.mod_lt _ (by omega)
  omega
theorem s_sn_le {sh : Nat → Nat} {n : Nat} (h8 : n ≤ 8) (hs9 : ∀ j, j < n → sh j ≤ 9) : f_sn sh n ≤ 100 := by
  have := x_sn_le (s := sh) (c := 9) n hs9
  omega
/-- the portions: by sorting, in rounds -/
theorem s_por {d : xd} {a n a0 i : Nat} {sh : Nat → Nat} (h8 : n ≤ 8) (hs9 : ∀ j, j < n → sh j ≤ 9) (hS : 1 ≤ f_sn sh n) (hi : i < n) : f_por d a n a0 sh i = nI (g_por a0 sh n i) := by
  have h100 := s_sn_le h8 hs9
  have hR : ∀ j, j < n → f_R a0 sh n (d (a + 2)) n j = nI (f_rt a0 sh n j) := fun j hj => by
    unfold f_R f_fill
    rw [if_pos hj]
  have hr : ∀ j, j < n → f_rt a0 sh n j < 100000 := fun j _ => s_rt_lt hS h100 j
  have h1 := s_inc (p := f_Q a0 sh n (d (a + 1)) n) (ord := f_ord (f_R a0 sh n (d (a + 2)) n) n) (r := f_rt a0 sh n) (n := n) (fun j hj => ⟨f_ord_lt _ n j hj, s_ord hR hr n (Nat.le_refl n) j hj⟩) hi (a0 - f_sn (f_qt a0 sh n) n) (x_left hS)
  have hQ : f_Q a0 sh n (d (a + 1)) n i = nI (f_qt a0 sh n i) := by
    unfold f_Q f_fill
    rw [if_pos hi]
  unfold f_por g_por
  rw [h1, hQ]
  by_cases z : g_ah (f_rt a0 sh n) i n < a0 - f_sn (f_qt a0 sh n) n
  · rw [if_pos z, if_pos z, nI_1]
  · rw [if_neg z, if_neg z]
    rfl
theorem s_prr {d : xd} {a m a0 i : Nat} {sh : Nat → Nat} (h8 : m + 1 ≤ 8) (hs9 : ∀ j, j < m + 1 → sh j ≤ 9) (hS : 1 ≤ f_sn sh (m + 1)) (hi : i < m + 1) : f_prr d a m a0 sh i = nI (g_por a0 sh (m + 1) i) := by
  have h100 := s_sn_le h8 hs9
  have hR : ∀ j, j < m + 1 → f_R a0 sh (m + 1) (d (a + 2)) (m + 1) j = nI (f_rt a0 sh (m + 1) j) := fun j hj => by
    unfold f_R f_fill
    rw [if_pos hj]
  have hr : ∀ j, j < m + 1 → f_rt a0 sh (m + 1) j < 100000 := fun j _ => s_rt_lt hS h100 j
  have h1 := s_inc (p := f_Q a0 sh (m + 1) (d (a + 1)) (m + 1)) (ord := fun i => f_bst (f_rr (f_R a0 sh (m + 1) (d (a + 2)) (m + 1)) m i) m) (r := f_rt a0 sh (m + 1)) (n := m + 1) (fun j hj => (s_rr hR hr j (by omega)).2 hj) hi (a0 - f_sn (f_qt a0 sh (m + 1)) (m + 1)) (x_left hS)
  have hQ : f_Q a0 sh (m + 1) (d (a + 1)) (m + 1) i = nI (f_qt a0 sh (m + 1) i) := by
    unfold f_Q f_fill
    rw [if_pos hi]
  unfold f_prr g_por
  rw [h1, hQ]
  by_cases z : g_ah (f_rt a0 sh (m + 1)) i (m + 1) < a0 - f_sn (f_qt a0 sh (m + 1)) (m + 1)
  · rw [if_pos z, if_pos z, nI_1]
  · rw [if_neg z, if_neg z]
    rfl

