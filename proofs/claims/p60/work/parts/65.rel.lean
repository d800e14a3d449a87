/-! the class's state at o and the model's row z say the same; what holds of it -/
def r_E (d : xd) (o : Nat) (z : Nat → Int32) (n q : Nat) : Prop :=
  d (o + 1) 0 = nI n ∧ z 0 = nI n ∧ d (o + 9) 0 = nI q ∧ z 1 = nI q ∧
  (∀ i, i < n → d (o + 2) i = z (6 + i) ∧ d (o + 3) i = z (14 + i) ∧ d (o + 4) i = z (22 + i) ∧ ((¬ x_bz (d (o + 5) i) = 0 ∧ z (30 + i) = 0) ∨ (x_bz (d (o + 5) i) = 0 ∧ z (30 + i) = 1)) ∧ d (o + 6) i = z (38 + i) ∧ d (o + 7) i = z (46 + i) ∧ d (o + 8) i = z (54 + i)) ∧
  (∀ k, k < q → d (o + 10) k = z (62 + k) - 1 ∧ d (o + 11) k = z (68 + k) ∧ d (o + 12) k = z (74 + k)) ∧
  (d (o + 13) 3 = z 2 ∧ d (o + 13) 0 = z 3 ∧ d (o + 13) 1 = z 4 ∧ d (o + 13) 2 = z 5)
def r_V (d : xd) (o n q : Nat) : Prop := n ≤ 8 ∧ q ≤ 6 ∧
  (∀ i, i < n → (∃ a, a < 4 ∧ d (o + 2) i = nI a) ∧ (∃ a, 1 ≤ a ∧ a ≤ 9 ∧ d (o + 3) i = nI a) ∧ (∃ a, 1 ≤ a ∧ a ≤ 5 ∧ d (o + 4) i = nI a) ∧ (∃ a, a ≤ 60 ∧ d (o + 6) i = nI a) ∧ (∃ a, a ≤ 9 ∧ d (o + 7) i = nI a)) ∧
  (∀ k, k < q → (d (o + 10) k = -1 ∨ ∃ w, w < n ∧ d (o + 10) k = nI w) ∧ (d (o + 11) k = 0 ∨ d (o + 11) k = 1) ∧ (∃ a, a ≤ 3 ∧ d (o + 12) k = nI a)) ∧
  (∃ a, a ≤ 99 ∧ d (o + 13) 1 = nI a)
def r_M (d : xd) (o n B : Nat) : Prop := (∃ (b : Nat → Nat) (t : Nat), (∀ i, i < n → d (o + 8) i = nI (b i)) ∧ d (o + 13) 2 = nI t ∧ f_sn b n + t ≤ B)
def r_T (B : Nat) (d : xd) (o : Nat) (z : Nat → Int32) (n q : Nat) : Prop := r_E d o z n q ∧ r_V d o n q ∧ r_M d o n B ∧ f_bal d o n
def r_S (B : Nat) (d : xd) (o : Nat) (z : Nat → Int32) : Prop := ∃ n q, r_T B d o z n q
/-- the state at o2 of d2 is that at o of d -/
def r_like (d : xd) (o : Nat) (d2 : xd) (o2 : Nat) : Prop := d2 (o2 + 1) 0 = d (o + 1) 0 ∧ d2 (o2 + 9) 0 = d (o + 9) 0 ∧
  (∀ i, i < 8 → d2 (o2 + 2) i = d (o + 2) i ∧ d2 (o2 + 3) i = d (o + 3) i ∧ d2 (o2 + 4) i = d (o + 4) i ∧ d2 (o2 + 5) i = d (o + 5) i ∧ d2 (o2 + 6) i = d (o + 6) i ∧ d2 (o2 + 7) i = d (o + 7) i ∧ d2 (o2 + 8) i = d (o + 8) i) ∧
  (∀ k, k < 6 → d2 (o2 + 10) k = d (o + 10) k ∧ d2 (o2 + 11) k = d (o + 11) k ∧ d2 (o2 + 12) k = d (o + 12) k) ∧
  (∀ j, j < 10 → d2 (o2 + 13) j = d (o + 13) j)
theorem f_sum_cong {f g : Nat → Int32} : ∀ {n : Nat}, (∀ j, j < n → f j = g j) → f_sum f n = f_sum g n
  | 0, _ => rfl
  | n + 1, h => by rw [f_sum, f_sum, f_sum_cong (fun j hj => h j (by omega)), h n (by omega)]
theorem f_sn_cong {f g : Nat → Nat} : ∀ {n : Nat}, (∀ j, j < n → f j = g j) → f_sn f n = f_sn g n
  | 0, _ => rfl
  | n + 1, h => by rw [f_sn, f_sn, f_sn_cong (fun j hj => h j (by omega)), h n (by omega)]
theorem r_rows {d d2 : xd} {o : Nat} (h : ∀ k, o + 1 ≤ k → k ≤ o + 13 → d2 k = d k) : r_like d o d2 o := by
  refine ⟨by rw [h _ (by omega) (by omega)], by rw [h _ (by omega) (by omega)], fun i _ => ?_, fun k _ => ?_, fun j _ => by rw [h _ (by omega) (by omega)]⟩
  · rw [h (o + 2) (by omega) (by omega), h (o + 3) (by omega) (by omega), h (o + 4) (by omega) (by omega), h (o + 5) (by omega) (by omega), h (o + 6) (by omega) (by omega), h (o + 7) (by omega) (by omega), h (o + 8) (by omega) (by omega)]
    exact ⟨rfl, rfl, rfl, rfl, rfl, rfl, rfl⟩
  · rw [h (o + 10) (by omega) (by omega), h (o + 11) (by omega) (by omega), h (o + 12) (by omega) (by omega)]
    exact ⟨rfl, rfl, rfl⟩
theorem r_T_like {B B2 : Nat} {d d2 : xd} {o o2 n q : Nat} {z z2 : Nat → Int32} (h : r_T B d o z n q) (hl : r_like d o d2 o2) (hz : ∀ k, k < 80 → z2 k = z k) (hB : B ≤ B2) : r_T B2 d2 o2 z2 n q := by
  obtain ⟨⟨e1, e2, e3, e4, e5, e6, e7⟩, ⟨v1, v2, v3, v4, v5⟩, v6, b1, b2, b3⟩ := h
  obtain ⟨l1, l2, l3, l4, l5⟩ := hl
  refine ⟨⟨l1.trans e1, (hz 0 (by omega)).trans e2, l2.trans e3, (hz 1 (by omega)).trans e4, fun i hi => ?_, fun k hk => ?_, ?_⟩, ⟨v1, v2, fun i hi => ?_, fun k hk => ?_, ?_⟩, ?_, ?_⟩
  · obtain ⟨a2, a3, a4, a5, a6, a7, a8⟩ := l3 i (by omega)
    rw [a2, a3, a4, a5, a6, a7, a8, hz (6 + i) (by omega), hz (14 + i) (by omega), hz (22 + i) (by omega), hz (30 + i) (by omega), hz (38 + i) (by omega), hz (46 + i) (by omega), hz (54 + i) (by omega)]
    exact e5 i hi
  · obtain ⟨a1, a2, a3⟩ := l4 k (by omega)
    rw [a1, a2, a3, hz (62 + k) (by omega), hz (68 + k) (by omega), hz (74 + k) (by omega)]
    exact e6 k hk
  · rw [l5 3 (by omega), l5 0 (by omega), l5 1 (by omega), l5 2 (by omega), hz 2 (by omega), hz 3 (by omega), hz 4 (by omega), hz 5 (by omega)]
    exact e7
  · obtain ⟨a2, a3, a4, a5, a6, a7, a8⟩ := l3 i (by omega)
    rw [a2, a3, a4, a6, a7]
    exact v3 i hi
  · obtain ⟨a1, a2, a3⟩ := l4 k (by omega)
    rw [a1, a2, a3]
    exact v4 k hk
  · rw [l5 1 (by omega)]
    exact v5
  · obtain ⟨b, t, h1, h2, h3⟩ := v6
    exact ⟨b, t, fun i hi => (l3 i (by omega)).2.2.2.2.2.2.trans (h1 i hi), (l5 2 (by omega)).trans h2, by omega⟩
  · unfold f_bal
    rw [f_sum_cong (f := d2 (o2 + 6)) (g := d (o + 6)) (fun j hj => (l3 j (by omega)).2.2.2.2.1), f_sum_cong (f := d2 (o2 + 7)) (g := d (o + 7)) (fun j hj => (l3 j (by omega)).2.2.2.2.2.1), f_sum_cong (f := d2 (o2 + 8)) (g := d (o + 8)) (fun j hj => (l3 j (by omega)).2.2.2.2.2.2),
      l5 0 (by omega), l5 1 (by omega), l5 2 (by omega), l5 4 (by omega), l5 5 (by omega), l5 6 (by omega), l5 7 (by omega), l5 8 (by omega), l5 9 (by omega)]
    exact ⟨b1, b2, b3⟩
theorem r_S_like {B B2 : Nat} {d d2 : xd} {o o2 : Nat} {z z2 : Nat → Int32} (h : r_S B d o z) (hl : r_like d o d2 o2) (hz : ∀ k, k < 80 → z2 k = z k) (hB : B ≤ B2) : r_S B2 d2 o2 z2 := by
  obtain ⟨n, q, h⟩ := h
  exact ⟨n, q, r_T_like h hl hz hB⟩
/-- a copy of a state -/
theorem r_copy {d : xd} {o o2 : Nat} (ho : o + 14 ≤ o2 ∨ o2 + 14 ≤ o) : r_like d o2 (f_cps d o o2) o := by
  have c1 : ∀ k, k ≠ o + 13 → f_cps d o o2 k = f_cpm (f_cpl d o o2) o o2 k := fun k hk => f_cpb_out hk
  have c2 : ∀ k, k < o + 9 ∨ o + 12 < k → k ≠ o + 13 → f_cps d o o2 k = f_cpl d o o2 k := fun k hk h2 => by rw [c1 k h2, f_cpm_out hk]
  refine ⟨?_, ?_, fun i hi => ⟨?_, ?_, ?_, ?_, ?_, ?_, ?_⟩, fun k hk => ⟨?_, ?_, ?_⟩, fun j hj => ?_⟩
  · exact f_cps_n
  · rw [c1 _ (by omega)]
    unfold f_cpm
    rw [x_r_ne2 (by omega), x_r_ne2 (by omega), x_r_ne2 (by omega), x_p_at, f_cpl_out (by omega)]
  · rw [c2 _ (by omega) (by omega)]
    unfold f_cpl
    rw [x_r_ne2 (by omega), x_r_ne2 (by omega), x_r_ne2 (by omega), x_r_ne2 (by omega), x_r_ne2 (by omega), x_r_ne2 (by omega), x_r_same, pk_cpy_in (by omega) (by omega)]
    congr 1
    omega
  · rw [c2 _ (by omega) (by omega)]
    unfold f_cpl
    rw [x_r_ne2 (by omega), x_r_ne2 (by omega), x_r_ne2 (by omega), x_r_ne2 (by omega), x_r_ne2 (by omega), x_r_same, pk_cpy_in (by omega) (by omega)]
    congr 1
    omega
  · rw [c2 _ (by omega) (by omega)]
    unfold f_cpl
    rw [x_r_ne2 (by omega), x_r_ne2 (by omega), x_r_ne2 (by omega), x_r_ne2 (by omega), x_r_same, pk_cpy_in (by omega) (by omega)]
    congr 1
    omega
  · rw [c2 _ (by omega) (by omega)]
    unfold f_cpl
    rw [x_r_ne2 (by omega), x_r_ne2 (by omega), x_r_ne2 (by omega), x_r_same, pk_cpy_in (by omega) (by omega)]
    congr 1
    omega
  · rw [c2 _ (by omega) (by omega)]
    unfold f_cpl
    rw [x_r_ne2 (by omega), x_r_ne2 (by omega), x_r_same, pk_cpy_in (by omega) (by omega)]
    congr 1
    omega
  · rw [c2 _ (by omega) (by omega)]
    unfold f_cpl
    rw [x_r_ne2 (by omega), x_r_same, pk_cpy_in (by omega) (by omega)]
    congr 1
    omega
  · rw [c2 _ (by omega) (by omega)]
    unfold f_cpl
    rw [x_r_same, pk_cpy_in (by omega) (by omega)]
    congr 1
    omega
  · rw [c1 _ (by omega)]
    unfold f_cpm
    rw [x_r_ne2 (by omega), x_r_ne2 (by omega), x_r_same, pk_cpy_in (by omega) (by omega), f_cpl_out (by omega)]
    congr 1
    omega
  · rw [c1 _ (by omega)]
    unfold f_cpm
    rw [x_r_ne2 (by omega), x_r_same, pk_cpy_in (by omega) (by omega), f_cpl_out (by omega)]
    congr 1
    omega
  · rw [c1 _ (by omega)]
    unfold f_cpm
    rw [x_r_same, pk_cpy_in (by omega) (by omega), f_cpl_out (by omega)]
    congr 1
    omega
  · have e : ∀ j, f_cpm (f_cpl d o o2) o o2 (o2 + 13) j = d (o2 + 13) j := fun j => by rw [f_cpm_out (by omega), f_cpl_out (by omega)]
    show f_cpb (f_cpm (f_cpl d o o2) o o2) o o2 (o + 13) j = d (o2 + 13) j
    unfold f_cpb
    rw [e, e, e, e, e, e, e, e, e, e]
    simp only [x_p, x_r_same, upd]
    have hjs : j = 0 ∨ j = 1 ∨ j = 2 ∨ j = 3 ∨ j = 4 ∨ j = 5 ∨ j = 6 ∨ j = 7 ∨ j = 8 ∨ j = 9 := by omega
    rcases hjs with rfl | rfl | rfl | rfl | rfl | rfl | rfl | rfl | rfl | rfl <;> simp

