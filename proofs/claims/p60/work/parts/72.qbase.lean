/-! pure rows that whole had among the model's -/
theorem f_rem_in {d : xd} {o q z k : Nat} (h : k ≠ 43) : f_rem d o q z k = f_cps d (45 + 14 * q) o k := by
  unfold f_rem
  rw [x_p_ne h, x_p_ne h]
theorem f_rem_43 {d : xd} {o q z : Nat} (q8 : q < 8) : f_rem d o q z 43 1 = nI ((q + 1) % 8) ∧ f_rem d o q z 43 0 = nI (min (z + 1) 8) := by
  unfold f_rem
  refine ⟨?_, x_p_at⟩
  rw [x_p_row (by omega)]
  exact x_p_at
/-- the state at 1 in the world that has it in the ring as well -/
theorem y_rem_like {d : xd} {q z : Nat} (q8 : q < 8) : r_like d 1 (f_rem d 1 q z) 1 := r_rows (fun _ _ hk2 => f_rem_out (by omega) q8)
theorem y_rem {B : Nat} {d : xd} {n w q z : Nat} {g : Nat → Int32} (h : r_T B d 1 g n w) (q8 : q < 8) : r_T B (f_rem d 1 q z) 1 g n w := r_T_like h (y_rem_like q8) (fun _ _ => rfl) (Nat.le_refl _)


theorem o_bi0 (q : Prop) [Decidable q] : (x_bi q = 0) = ¬ q := by
  unfold x_bi
  by_cases h : q <;> simp [h]
theorem o_ix {x : Int32} {n : Nat} (hn : n < 1000) (h : 0 ≤ x ∧ x < nI n) : ∃ i, i < n ∧ x = nI i := by
  rcases pk_ix x (n := n) (by omega) with h1 | h1 | h1
  · exact absurd h.1 (k2_nle h1)
  · exact absurd h.2 (k2_nlt h1)
  · exact h1
theorem o_rng {x : Int32} {lo hi : Nat} (hh : hi < 1000000) (hl : lo ≤ hi) (h : nI lo ≤ x ∧ x ≤ nI hi) : ∃ a, lo ≤ a ∧ a ≤ hi ∧ x = nI a := by
  have h0 : ¬ x < 0 := k2_nlt (Int32.le_trans (nI_pos' (by omega)) h.1)
  obtain ⟨j, hj, rfl⟩ := nI_of2 (n := hi) (nI_toInt (by omega)) h0 h.2
  exact ⟨j, (nI_leI (by omega) (by omega)).mp h.1, hj, rfl⟩
def y_fr (d d1 : xd) : Prop := ∀ k, (k = 0 ∨ (15 ≤ k ∧ k ≤ 156) ∨ 168 ≤ k) → d1 k = d k
theorem y_up {B B2 : Nat} {d : xd} {o n w : Nat} {g : Nat → Int32} (t : r_T B d o g n w) (hB : B ≤ B2) : r_S B2 d o g := ⟨n, w, r_T_like t (r_rows (fun _ _ _ => rfl)) (fun _ _ => rfl) hB⟩
section OR
variable {d : xd} {n : Nat}
theorem o_ra (a b : Int32) (hn : d 2 0 = nI n) (h8 : n ≤ 8) : (f_ra d 1 a b = 0 ∧ (0 ≤ a ∧ a ≤ 3) ∧ (1 ≤ b ∧ b ≤ 9) ∧ n < 8) ∨ (f_ra d 1 a b = 2 ∧ (¬ (0 ≤ a ∧ a ≤ 3) ∨ ¬ (1 ≤ b ∧ b ≤ 9))) ∨ (f_ra d 1 a b = 3 ∧ (0 ≤ a ∧ a ≤ 3) ∧ (1 ≤ b ∧ b ≤ 9) ∧ n = 8) := by
  unfold f_ra
  simp only [o_bi0]
  by_cases ha : 0 ≤ a ∧ a ≤ 3
  · by_cases hb : 1 ≤ b ∧ b ≤ 9
    · rw [if_neg (fun q => q ha), if_neg (fun q => q hb)]
      by_cases h : n < 8
      · exact Or.inl ⟨if_pos (by show d 2 0 < 8; rw [hn]; exact nI_lt (b := 8) h (by omega)), ha, hb, h⟩
      · have e : n = 8 := by omega
        subst e
        exact Or.inr (Or.inr ⟨if_neg (by show ¬ d 2 0 < 8; rw [hn]; decide), ha, hb, rfl⟩)
    · exact Or.inr (Or.inl ⟨by rw [if_neg (fun q => q ha), if_pos hb], Or.inr hb⟩)
  · exact Or.inr (Or.inl ⟨by rw [if_pos ha], Or.inl ha⟩)
theorem o_rd (x : Int32) (hn : d 2 0 = nI n) (h8 : n ≤ 8) : (f_rd d 1 x = 0 ∧ ∃ i, i < n ∧ x = nI i ∧ d 14 1 + d 8 i ≤ 99) ∨ (f_rd d 1 x = 1 ∧ ¬ (0 ≤ x ∧ x < nI n)) ∨ (f_rd d 1 x = 3 ∧ ∃ i, i < n ∧ x = nI i ∧ ¬ d 14 1 + d 8 i ≤ 99) := by
  unfold f_rd
  simp only [o_bi0]
  show (ite (¬ (0 ≤ x ∧ x < d 2 0)) _ _ = _ ∧ _) ∨ (ite (¬ (0 ≤ x ∧ x < d 2 0)) _ _ = _ ∧ _) ∨ (ite (¬ (0 ≤ x ∧ x < d 2 0)) _ _ = _ ∧ _)
  rw [hn]
  by_cases hx : 0 ≤ x ∧ x < nI n
  · obtain ⟨i, hi, rfl⟩ := o_ix (by omega) hx
    rw [if_neg (fun q => q hx), nI_clamp (by omega)]
    by_cases h : d 14 1 + d 8 i ≤ 99
    · exact Or.inl ⟨if_pos h, i, hi, rfl, h⟩
    · exact Or.inr (Or.inr ⟨if_neg h, i, hi, rfl, h⟩)
  · exact Or.inr (Or.inl ⟨if_pos hx, hx⟩)
theorem o_rl (x v hi9 : Int32) (hn : d 2 0 = nI n) (h8 : n ≤ 8) : (f_rl d 1 x v hi9 = 0 ∧ (∃ i, i < n ∧ x = nI i) ∧ (1 ≤ v ∧ v ≤ hi9)) ∨ (f_rl d 1 x v hi9 = 1 ∧ ¬ (0 ≤ x ∧ x < nI n)) ∨ (f_rl d 1 x v hi9 = 2 ∧ (∃ i, i < n ∧ x = nI i) ∧ ¬ (1 ≤ v ∧ v ≤ hi9)) := by
  unfold f_rl
  simp only [o_bi0]
  show (ite (¬ (0 ≤ x ∧ x < d 2 0)) _ _ = _ ∧ _) ∨ (ite (¬ (0 ≤ x ∧ x < d 2 0)) _ _ = _ ∧ _) ∨ (ite (¬ (0 ≤ x ∧ x < d 2 0)) _ _ = _ ∧ _)
  rw [hn]
  by_cases hx : 0 ≤ x ∧ x < nI n
  · have hi := o_ix (by omega) hx
    rw [if_neg (fun q => q hx)]
    by_cases h : 1 ≤ v ∧ v ≤ hi9
    · exact Or.inl ⟨if_neg (fun q => q h), hi, h⟩
    · exact Or.inr (Or.inr ⟨if_pos h, hi, h⟩)
  · exact Or.inr (Or.inl ⟨if_pos hx, hx⟩)
theorem o_rdel (a : Int32) (hn : d 2 0 = nI n) (h8 : n ≤ 8) : (f_rdel d 1 a = 0 ∧ (1 ≤ a ∧ a ≤ 200) ∧ 1 ≤ n) ∨ (f_rdel d 1 a = 2 ∧ ¬ (1 ≤ a ∧ a ≤ 200)) ∨ (f_rdel d 1 a = 3 ∧ (1 ≤ a ∧ a ≤ 200) ∧ n = 0) := by
  unfold f_rdel
  simp only [o_bi0]
  by_cases ha : 1 ≤ a ∧ a ≤ 200
  · rw [if_neg (fun q => q ha)]
    show (ite (d 2 0 = 0) _ _ = _ ∧ _) ∨ _ ∨ (ite (d 2 0 = 0) _ _ = _ ∧ _)
    rw [hn]
    by_cases h : n = 0
    · subst h
      exact Or.inr (Or.inr ⟨if_pos rfl, ha, rfl⟩)
    · exact Or.inl ⟨if_neg (nI_ne0 (by omega) (by omega)), ha, by omega⟩
  · exact Or.inr (Or.inl ⟨if_pos ha, ha⟩)
theorem o_rdon (u : Int32) : (f_rdon d 1 u = 0 ∧ (1 ≤ u ∧ u ≤ 50) ∧ d 14 1 + u ≤ 99) ∨ (f_rdon d 1 u = 2 ∧ ¬ (1 ≤ u ∧ u ≤ 50)) ∨ (f_rdon d 1 u = 3 ∧ (1 ≤ u ∧ u ≤ 50) ∧ ¬ d 14 1 + u ≤ 99) := by
  unfold f_rdon
  simp only [o_bi0]
  by_cases ha : 1 ≤ u ∧ u ≤ 50
  · rw [if_neg (fun q => q ha)]
    by_cases h : d 14 1 + u ≤ 99
    · exact Or.inl ⟨if_pos h, ha, h⟩
    · exact Or.inr (Or.inr ⟨if_neg h, ha, h⟩)
  · exact Or.inr (Or.inl ⟨if_pos ha, ha⟩)
theorem o_rgive (x u : Int32) (hn : d 2 0 = nI n) (h8 : n ≤ 8) : (f_rgive d 1 x u = 0 ∧ ∃ i, i < n ∧ x = nI i ∧ (1 ≤ u ∧ u ≤ 9) ∧ ¬ d 14 1 < u ∧ ¬ 9 < d 8 i + u) ∨ (f_rgive d 1 x u = 1 ∧ ¬ (0 ≤ x ∧ x < nI n)) ∨ (f_rgive d 1 x u = 2 ∧ (∃ i, i < n ∧ x = nI i) ∧ ¬ (1 ≤ u ∧ u ≤ 9)) ∨ (f_rgive d 1 x u = 3 ∧ ∃ i, i < n ∧ x = nI i ∧ (1 ≤ u ∧ u ≤ 9) ∧ (d 14 1 < u ∨ 9 < d 8 i + u)) := by
  unfold f_rgive
  rcases o_rl x u 9 hn h8 with ⟨h0, ⟨i, hi, rfl⟩, hv⟩ | ⟨h0, hx⟩ | ⟨h0, hi, hv⟩
  · rw [if_pos h0, nI_clamp (by omega)]
    show (ite (d 14 1 < u) _ (ite (9 < d 8 i + u) _ _) = _ ∧ _) ∨ (ite (d 14 1 < u) _ (ite (9 < d 8 i + u) _ _) = _ ∧ _) ∨ (ite (d 14 1 < u) _ (ite (9 < d 8 i + u) _ _) = _ ∧ _) ∨ (ite (d 14 1 < u) _ (ite (9 < d 8 i + u) _ _) = _ ∧ _)
    by_cases h1 : d 14 1 < u
    · exact Or.inr (Or.inr (Or.inr ⟨if_pos h1, i, hi, rfl, hv, Or.inl h1⟩))
    · rw [if_neg h1]
      by_cases h2 : 9 < d 8 i + u
      · exact Or.inr (Or.inr (Or.inr ⟨if_pos h2, i, hi, rfl, hv, Or.inr h2⟩))
      · exact Or.inl ⟨if_neg h2, i, hi, rfl, hv, h1, h2⟩
  · exact Or.inr (Or.inl ⟨by rw [h0]; rfl, hx⟩)
  · exact Or.inr (Or.inr (Or.inl ⟨by rw [h0]; rfl, hi, hv⟩))
theorem o_rret (x u : Int32) (hn : d 2 0 = nI n) (h8 : n ≤ 8) : (f_rret d 1 x u = 0 ∧ ∃ i, i < n ∧ x = nI i ∧ (1 ≤ u ∧ u ≤ 9) ∧ ¬ d 8 i < u ∧ ¬ 99 < d 14 1 + u) ∨ (f_rret d 1 x u = 1 ∧ ¬ (0 ≤ x ∧ x < nI n)) ∨ (f_rret d 1 x u = 2 ∧ (∃ i, i < n ∧ x = nI i) ∧ ¬ (1 ≤ u ∧ u ≤ 9)) ∨ (f_rret d 1 x u = 3 ∧ ∃ i, i < n ∧ x = nI i ∧ (1 ≤ u ∧ u ≤ 9) ∧ (d 8 i < u ∨ 99 < d 14 1 + u)) := by
  unfold f_rret
  rcases o_rl x u 9 hn h8 with ⟨h0, ⟨i, hi, rfl⟩, hv⟩ | ⟨h0, hx⟩ | ⟨h0, hi, hv⟩
  · rw [if_pos h0, nI_clamp (by omega)]
    show (ite (d 8 i < u) _ (ite (99 < d 14 1 + u) _ _) = _ ∧ _) ∨ (ite (d 8 i < u) _ (ite (99 < d 14 1 + u) _ _) = _ ∧ _) ∨ (ite (d 8 i < u) _ (ite (99 < d 14 1 + u) _ _) = _ ∧ _) ∨ (ite (d 8 i < u) _ (ite (99 < d 14 1 + u) _ _) = _ ∧ _)
    by_cases h1 : d 8 i < u
    · exact Or.inr (Or.inr (Or.inr ⟨if_pos h1, i, hi, rfl, hv, Or.inl h1⟩))
    · rw [if_neg h1]
      by_cases h2 : 99 < d 14 1 + u
      · exact Or.inr (Or.inr (Or.inr ⟨if_pos h2, i, hi, rfl, hv, Or.inr h2⟩))
      · exact Or.inl ⟨if_neg h2, i, hi, rfl, hv, h1, h2⟩
  · exact Or.inr (Or.inl ⟨by rw [h0]; rfl, hx⟩)
  · exact Or.inr (Or.inr (Or.inl ⟨by rw [h0]; rfl, hi, hv⟩))
theorem o_rbuy (x u : Int32) (hn : d 2 0 = nI n) (h8 : n ≤ 8) : (f_rbuy d 1 x u = 0 ∧ ∃ i, i < n ∧ x = nI i ∧ (1 ≤ u ∧ u ≤ 60) ∧ ¬ d 14 0 < u ∧ ¬ 60 - d 7 i < u ∧ ¬ d 9 i < u) ∨ (f_rbuy d 1 x u = 1 ∧ ¬ (0 ≤ x ∧ x < nI n)) ∨ (f_rbuy d 1 x u = 2 ∧ (∃ i, i < n ∧ x = nI i) ∧ ¬ (1 ≤ u ∧ u ≤ 60)) ∨ (f_rbuy d 1 x u = 3 ∧ ∃ i, i < n ∧ x = nI i ∧ (1 ≤ u ∧ u ≤ 60) ∧ (d 14 0 < u ∨ 60 - d 7 i < u ∨ d 9 i < u)) := by
  unfold f_rbuy
  rcases o_rl x u 60 hn h8 with ⟨h0, ⟨i, hi, rfl⟩, hv⟩ | ⟨h0, hx⟩ | ⟨h0, hi, hv⟩
  · rw [if_pos h0, nI_clamp (by omega)]
    show (ite (d 14 0 < u) _ (ite (60 - d 7 i < u) _ (ite (d 9 i < u) _ _)) = _ ∧ _) ∨ (ite (d 14 0 < u) _ (ite (60 - d 7 i < u) _ (ite (d 9 i < u) _ _)) = _ ∧ _) ∨ (ite (d 14 0 < u) _ (ite (60 - d 7 i < u) _ (ite (d 9 i < u) _ _)) = _ ∧ _) ∨ (ite (d 14 0 < u) _ (ite (60 - d 7 i < u) _ (ite (d 9 i < u) _ _)) = _ ∧ _)
    by_cases h1 : d 14 0 < u
    · exact Or.inr (Or.inr (Or.inr ⟨if_pos h1, i, hi, rfl, hv, Or.inl h1⟩))
    · rw [if_neg h1]
      by_cases h2 : 60 - d 7 i < u
      · exact Or.inr (Or.inr (Or.inr ⟨if_pos h2, i, hi, rfl, hv, Or.inr (Or.inl h2)⟩))
      · rw [if_neg h2]
        by_cases h3 : d 9 i < u
        · exact Or.inr (Or.inr (Or.inr ⟨if_pos h3, i, hi, rfl, hv, Or.inr (Or.inr h3)⟩))
        · exact Or.inl ⟨if_neg h3, i, hi, rfl, hv, h1, h2, h3⟩
  · exact Or.inr (Or.inl ⟨by rw [h0]; rfl, hx⟩)
  · exact Or.inr (Or.inr (Or.inl ⟨by rw [h0]; rfl, hi, hv⟩))
theorem o_rpay (hn : d 2 0 = nI n) (h8 : n ≤ 8) : (f_rpay d 1 = 0 ∧ 1 ≤ n ∧ ¬ d 14 2 = 0) ∨ (f_rpay d 1 = 3 ∧ (n = 0 ∨ d 14 2 = 0)) := by
  unfold f_rpay
  show (ite (d 2 0 = 0) _ (ite (d 14 2 = 0) _ _) = _ ∧ _) ∨ (ite (d 2 0 = 0) _ (ite (d 14 2 = 0) _ _) = _ ∧ _)
  rw [hn]
  by_cases h : n = 0
  · subst h
    exact Or.inr ⟨if_pos rfl, Or.inl rfl⟩
  · rw [if_neg (nI_ne0 (by omega) (by omega))]
    by_cases h2 : d 14 2 = 0
    · exact Or.inr ⟨if_pos h2, Or.inr h2⟩
    · exact Or.inl ⟨if_neg h2, by omega, h2⟩
theorem o_rpor (x a : Int32) (hn : d 2 0 = nI n) (h8 : n ≤ 8) : (f_rpor d 1 x a = 0 ∧ (∃ i, i < n ∧ x = nI i) ∧ (0 ≤ a ∧ a ≤ 999)) ∨ (f_rpor d 1 x a = 1 ∧ ¬ (0 ≤ x ∧ x < nI n)) ∨ (f_rpor d 1 x a = 2 ∧ (∃ i, i < n ∧ x = nI i) ∧ ¬ (0 ≤ a ∧ a ≤ 999)) := by
  unfold f_rpor
  simp only [o_bi0]
  show (ite (¬ (0 ≤ x ∧ x < d 2 0)) _ _ = _ ∧ _) ∨ (ite (¬ (0 ≤ x ∧ x < d 2 0)) _ _ = _ ∧ _) ∨ (ite (¬ (0 ≤ x ∧ x < d 2 0)) _ _ = _ ∧ _)
  rw [hn]
  by_cases hx : 0 ≤ x ∧ x < nI n
  · have hi := o_ix (by omega) hx
    rw [if_neg (fun q => q hx)]
    by_cases h : 0 ≤ a ∧ a ≤ 999
    · exact Or.inl ⟨if_neg (fun q => q h), hi, h⟩
    · exact Or.inr (Or.inr ⟨if_pos h, hi, h⟩)
  · exact Or.inr (Or.inl ⟨if_pos hx, hx⟩)
theorem o_ram {w : Nat} (x : Int32) (hn : d 2 0 = nI n) (h8 : n ≤ 8) (hw : d 10 0 = nI w) (h6 : w ≤ 6) : (f_ram d 1 x = 0 ∧ (∃ i, i < n ∧ x = nI i) ∧ w < 6) ∨ (f_ram d 1 x = 1 ∧ ¬ (0 ≤ x ∧ x < nI n)) ∨ (f_ram d 1 x = 3 ∧ (∃ i, i < n ∧ x = nI i) ∧ w = 6) := by
  unfold f_ram
  simp only [o_bi0]
  show (ite (¬ (0 ≤ x ∧ x < d 2 0)) _ (ite (d 10 0 < 6) _ _) = _ ∧ _) ∨ (ite (¬ (0 ≤ x ∧ x < d 2 0)) _ (ite (d 10 0 < 6) _ _) = _ ∧ _) ∨ (ite (¬ (0 ≤ x ∧ x < d 2 0)) _ (ite (d 10 0 < 6) _ _) = _ ∧ _)
  rw [hn, hw]
  by_cases hx : 0 ≤ x ∧ x < nI n
  · have hi := o_ix (by omega) hx
    rw [if_neg (fun q => q hx)]
    by_cases h : w < 6
    · exact Or.inl ⟨if_pos (nI_lt (b := 6) h (by omega)), hi, h⟩
    · have e : w = 6 := by omega
      subst e
      exact Or.inr (Or.inr ⟨if_neg (by decide), hi, rfl⟩)
  · exact Or.inr (Or.inl ⟨if_pos hx, hx⟩)
theorem o_rpro (x : Int32) (hn : d 2 0 = nI n) (h8 : n ≤ 8) : (f_rpro d 1 x = 0 ∧ (1 ≤ x ∧ x ≤ 5) ∧ 1 ≤ n) ∨ (f_rpro d 1 x = 2 ∧ ¬ (1 ≤ x ∧ x ≤ 5)) ∨ (f_rpro d 1 x = 3 ∧ (1 ≤ x ∧ x ≤ 5) ∧ n = 0) := by
  unfold f_rpro
  simp only [o_bi0]
  by_cases ha : 1 ≤ x ∧ x ≤ 5
  · rw [if_neg (fun q => q ha)]
    show (ite (d 2 0 = 0) _ _ = _ ∧ _) ∨ _ ∨ (ite (d 2 0 = 0) _ _ = _ ∧ _)
    rw [hn]
    by_cases h : n = 0
    · subst h
      exact Or.inr (Or.inr ⟨if_pos rfl, ha, rfl⟩)
    · exact Or.inl ⟨if_neg (nI_ne0 (by omega) (by omega)), ha, by omega⟩
  · exact Or.inr (Or.inl ⟨if_pos ha, ha⟩)
end OR
theorem o_swn {x y : Int32} (h : (¬ x_bz x = 0 ∧ y = 0) ∨ (x_bz x = 0 ∧ y = 1)) : x_bi (x_bz x = 0) = x_bi (¬ y = 0) := by
  rcases h with ⟨h1, h2⟩ | ⟨h1, h2⟩
  · subst h2; unfold x_bi; rw [if_neg h1, if_neg (fun q => q rfl)]
  · subst h2; unfold x_bi; rw [if_pos h1, if_pos (by decide)]
theorem o_swf {x y : Int32} (h : (¬ x_bz x = 0 ∧ y = 0) ∨ (x_bz x = 0 ∧ y = 1)) : x_bz x = x_bi (¬ y = 1) := by
  rcases h with ⟨h1, h2⟩ | ⟨h1, h2⟩
  · subst h2
    unfold x_bi
    rw [if_pos (by decide)]
    unfold x_bz at h1 ⊢
    split
    · rename_i e; exact absurd (if_pos e) h1
    · rfl
  · subst h2; unfold x_bi; rw [if_neg (fun q => q rfl), h1]
theorem o_vot {d : xd} {o n w : Nat} {z : Nat → Int32} (e : r_E d o z n w) (x : Int32) : ∀ m, m ≤ n → f_votes d o x m = g_vot z x m
  | 0, _ => rfl
  | m + 1, hm => by
    obtain ⟨-, -, -, -, e5, -⟩ := id e
    obtain ⟨-, a2, a3, -⟩ := e5 m (by omega)
    rw [f_votes, g_vot, o_vot e x m (by omega), a2, a3]
    split
    · rfl
    · rw [Int32.add_zero]
theorem o_sum {f g : Nat → Int32} {n : Nat} (h : ∀ i, i < n → f i = g i) : f_sum f n = f_sum g n := f_sum_cong h
theorem o_wc {B : Nat} {d : xd} {o n w : Nat} {z : Nat → Int32} {x : Int32} (h : r_T B d o z n w) : f_wc d o n x = g_car z n x := by
  unfold f_wc g_car
  rw [o_vot h.1 x n (Nat.le_refl n), o_sum (f := d (o + 3)) (g := g_row z 14) (fun i hi => (h.1.2.2.2.2.1 i hi).2.1)]
theorem o_ion {x y : Int32} (h : (¬ x_bz x = 0 ∧ y = 0) ∨ (x_bz x = 0 ∧ y = 1)) : x_bz x = x_bi (y = 0) := by
  rcases h with ⟨h1, h2⟩ | ⟨h1, h2⟩
  · subst h2
    unfold x_bi
    rw [if_pos rfl]
    unfold x_bz at h1 ⊢
    split
    · rename_i e; exact absurd (if_pos e) h1
    · rfl
  · subst h2; unfold x_bi; rw [if_neg (by decide), h1]
theorem o_mem {x y : Int32} {a : Nat} (ha : a ≤ 3) (hx : x = nI a) (hy : x = y) : x_bi (¬ 0 < x) = x_bi (y = 0) := by
  subst hy
  rcases Nat.eq_zero_or_pos a with e | e
  · subst e
    rw [hx]
    rfl
  · have h1 : (0 : Int32) < x := by rw [hx]; exact nI_lt (a := 0) e (by omega)
    have h2 : ¬ x = 0 := by rw [hx]; exact nI_ne0 e (by omega)
    unfold x_bi
    rw [if_neg (fun q => q h1), if_neg h2]
theorem o_nf {d : xd} {i b o u : Nat} (hb : d 5 i = nI b) (ho : d 7 i = nI o) (hu : d 8 i = nI u) (b1 : 1 ≤ b) (b2 : b ≤ 5) (o1 : o ≤ 60) (u1 : u ≤ 9) : f_nf d 1 i = nI (min (o / b) u) := by
  unfold f_nf
  show (if d 5 i < 1 then 0 else if d 8 i < d 7 i / d 5 i then d 8 i else d 7 i / d 5 i) = _
  have hq : o / b ≤ 60 := Nat.le_trans (Nat.div_le_self o b) o1
  rw [hb, ho, hu, pk_div (by omega) b1 (by omega), if_neg (show ¬ nI b < 1 from nI_nlt (a := b) (b := 1) b1 (by omega))]
  by_cases h : u < o / b
  · rw [if_pos (nI_lt h (by omega)), Nat.min_eq_right (by omega)]
  · rw [if_neg (nI_nlt (by omega) (by omega)), Nat.min_eq_left (by omega)]
theorem o_las {z : Nat → Int32} {i b o u : Nat} (hb : z (22 + i) = nI b) (ho : z (38 + i) = nI o) (hu : z (46 + i) = nI u) (b1 : 1 ≤ b) (b2 : b ≤ 5) (o1 : o ≤ 60) (u1 : u ≤ 9) : g_las z i = nI (min (o / b) u) := by
  unfold g_las
  have hq : o / b ≤ 60 := Nat.le_trans (Nat.div_le_self o b) o1
  rw [hb, ho, hu, pk_div (by omega) b1 (by omega)]
  by_cases h : o / b < u
  · rw [if_pos (nI_lt h (by omega)), Nat.min_eq_left (by omega)]
  · rw [if_neg (nI_nlt (by omega) (by omega)), Nat.min_eq_right (by omega)]
theorem o_glow {B : Nat} {d : xd} {n w : Nat} {z : Nat → Int32} (t : r_T B d 1 z n w) (x : Int32) : ∀ m, m ≤ n → f_glow d 1 x m = g_glow z x m
  | 0, _ => rfl
  | m + 1, hm => by
    obtain ⟨a1, a2, a3, -⟩ := t.1.2.2.2.2.1 m (by omega)
    rw [f_glow, g_glow, o_glow t x m (by omega), t_rdy t.1 t.2.1 (by omega), a1, a3]
    split
    · rfl
    · rw [Int32.add_zero]
theorem o_bs (f : Int32 → Int32) : ∀ k, f_bs f k = g_bs f k
  | 0 => rfl
  | k + 1 => by rw [f_bs, g_bs, o_bs f k]
theorem o_car5 {z : Nat → Int32} {n : Nat} {sh : Nat → Nat} (hs : ∀ j, j < n → z (14 + j) = nI (sh j)) (hs9 : ∀ j, j < n → sh j ≤ 9) (hS : 1 ≤ f_sn sh n) (h8 : n ≤ 8) (hb : ∀ j, j < n → ∃ b, b ≤ 5 ∧ z (22 + j) = nI b) : g_car z n (nI (4 + 1)) = true := by
  have h1 : ∀ k, k ≤ n → f_sum (g_row z 14) k = nI (f_sn sh k) := by
    intro k hk
    induction k with
    | zero => rfl
    | succ k ih => rw [f_sum, f_sn, ih (by omega), show g_row z 14 k = z (14 + k) from rfl, hs k (by omega), nI_add]
  have h2 : ∀ k, k ≤ n → g_vot z (nI (4 + 1)) k = nI (f_sn sh k) := by
    intro k hk
    induction k with
    | zero => rfl
    | succ k ih =>
      obtain ⟨b, b5, hb⟩ := hb k (by omega)
      rw [g_vot, f_sn, ih (by omega), hb, if_pos (nI_le b5 (by omega)), hs k (by omega), nI_add]
  have h100 := s_sn_le h8 hs9
  unfold g_car
  rw [h1 n (Nat.le_refl n), h2 n (Nat.le_refl n), show (2 : Int32) = nI 2 from rfl, pk_mul]
  exact decide_eq_true (nI_lt (by omega) (by omega))
theorem o_sn_le {f : Nat → Nat} {j : Nat} : ∀ {n : Nat}, j < n → f j ≤ f_sn f n
  | 0, h => absurd h (Nat.not_lt_zero j)
  | n + 1, h => by
    rw [f_sn]
    rcases Nat.lt_or_ge j n with y | y
    · have := o_sn_le (f := f) y
      omega
    · have e : j = n := by omega
      subst e
      omega
def y_cok (l : Launch) (D D2 : xd) (v a b : Nat) : Prop := (∀ G : xG, x_M G l yX11_refusalOf wsX11_refusalOf 5 0 0 [.ref (x_b G + 0), .ref (x_e G 0 v), .int (nI a), .int (nI b)] D (some (.ref (x_e G 1 0))) D) ∧ (∀ G : xG, x_M G l yX11_perform wsX11_perform 6 0 0 [.ref (x_b G + 0), .ref (x_e G 0 v), .int (nI a), .int (nI b)] D none D2) ∧ y_fr D D2
def y_cbad (l : Launch) (D : xd) (v a b : Nat) : Prop := ∃ f9, f9 < 4 ∧ f9 ≠ 0 ∧ ∀ G : xG, x_M G l yX11_refusalOf wsX11_refusalOf 5 0 0 [.ref (x_b G + 0), .ref (x_e G 0 v), .int (nI a), .int (nI b)] D (some (.ref (x_e G 1 f9))) D
theorem o_nix {a i : Nat} (ha : a < 1000) {n : Nat} (hi : i < n) (h8 : n ≤ 8) (e : nI a = nI i) : a = i := (nI_eq (by omega) (by omega)).mp e
theorem o_nrg {a lo hi9 : Nat} (ha : a < 1000) (hh : hi9 < 1000) (hl : lo ≤ hi9) (h : nI lo ≤ nI a ∧ nI a ≤ nI hi9) : lo ≤ a ∧ a ≤ hi9 := ⟨(nI_leI (by omega) (by omega)).mp h.1, (nI_leI (by omega) (by omega)).mp h.2⟩

theorem tp_mx_in {tx : Nat → Nat} {L p : Nat} (hp : p ≤ L) : ∀ i, p + tp_mx tx L p i ≤ L
  | 0 => by
    rw [tp_mx]
    omega
  | i + 1 => by
    have h1 := tp_mx_in (tx := tx) hp i
    have h2 := tp_mg_in tx L p i (x_wL i)
    rw [tp_mx]
    unfold tp_ml
    omega
theorem tp_ce_in {tx : Nat → Nat} {L p : Nat} (hp : p ≤ L) : tp_ce tx L p ≤ L := by
  unfold tp_ce
  split
  · rename_i h
    have hq := tp_vb_in hp h rfl
    split
    · exact tp_ap_le hq _
    · exact tp_ap_le hq _
  · exact tp_mx_in hp 13
theorem tp_rf_2 {d : xd} {tx : Nat → Nat} {L p c : Nat} (h : ¬ tp_co tx L p) : t_rf d tx L p c 168 2 = nI (tp_ce tx L p) := by
  unfold t_rf tp_ce
  by_cases hv : tp_vb tx L p < 13
  · rw [if_pos hv, if_pos hv, if_neg (fun q => h ⟨hv, q⟩)]
    unfold t_rx
    exact t_w_2
  · rw [if_neg hv, if_neg hv]
    exact x_p_at
theorem tp_rf_out {d : xd} {tx : Nat → Nat} {L p c k : Nat} (h : k ≠ 168) (h2 : k < 170 ∨ 172 < k) : t_rf d tx L p c k = d k := by
  unfold t_rf
  split
  · exact t_rx_out h h2
  · exact x_p_ne h
theorem r_S_up {B B2 : Nat} {d : xd} {o : Nat} {z : Nat → Int32} (h : r_S B d o z) (hB : B ≤ B2) : r_S B2 d o z := by
  obtain ⟨n, w, t⟩ := h
  exact y_up t hB
theorem r_like_trans {d d2 d3 : xd} {o o2 o3 : Nat} (h : r_like d o d2 o2) (h2 : r_like d2 o2 d3 o3) : r_like d o d3 o3 := by
  obtain ⟨a1, a2, a3, a4, a5⟩ := h
  obtain ⟨b1, b2, b3, b4, b5⟩ := h2
  refine ⟨b1.trans a1, b2.trans a2, fun i hi => ?_, fun k hk => ?_, fun j hj => (b5 j hj).trans (a5 j hj)⟩
  · obtain ⟨p1, p2, p3, p4, p5, p6, p7⟩ := a3 i hi
    obtain ⟨q1, q2, q3, q4, q5, q6, q7⟩ := b3 i hi
    exact ⟨q1.trans p1, q2.trans p2, q3.trans p3, q4.trans p4, q5.trans p5, q6.trans p6, q7.trans p7⟩
  · obtain ⟨p1, p2, p3⟩ := a4 k hk
    obtain ⟨q1, q2, q3⟩ := b4 k hk
    exact ⟨q1.trans p1, q2.trans p2, q3.trans p3⟩
theorem x_wL_2 : ∀ v, v < 13 → 2 ≤ x_wL v := by decide +kernel
theorem tp_ce_full {tx : Nat → Nat} {L p : Nat} (hp : p = L) : tp_ce tx L p = L := by
  subst hp
  unfold tp_ce
  by_cases hv : tp_vb tx p p < 13
  · have h1 := tp_vb_in (Nat.le_refl p) hv rfl
    have h2 := x_wL_2 _ hv
    omega
  · rw [if_neg hv]
    have h1 := tp_mx_in (tx := tx) (Nat.le_refl p) 13
    omega
theorem tp_v1_lt (tx : Nat → Nat) (L p : Nat) : tp_v1 tx L p < 1000 := by
  unfold tp_v1
  split
  · exact tp_vv_lt _ _ _ _ (tp_m_le _ _).2
  · omega
theorem tp_v2_lt (tx : Nat → Nat) (L p : Nat) : tp_v2 tx L p < 1000 := by
  unfold tp_v2
  split
  · exact tp_vv_lt _ _ _ _ (tp_m_le _ _).2
  · omega
theorem t_rc_at {d : xd} {tx : Nat → Nat} {L p c : Nat} : t_rc d tx L p c 170 c = nI (tp_vb tx L p + 1) ∧ t_rc d tx L p c 171 c = nI (tp_v1 tx L p) ∧ t_rc d tx L p c 172 c = nI (tp_v2 tx L p) := by
  unfold t_rc t_rx t_w
  refine ⟨?_, ?_, ?_⟩
  · rw [x_p_ne (by omega), x_p_ne (by omega), x_p_at]
  · rw [x_p_ne (by omega), x_p_at]
    rfl
  · rw [x_p_at]
    rfl
theorem t_rc_row {d : xd} {tx : Nat → Nat} {L p c i : Nat} (h : i ≠ c) : t_rc d tx L p c 170 i = d 170 i ∧ t_rc d tx L p c 171 i = d 171 i ∧ t_rc d tx L p c 172 i = d 172 i := by
  unfold t_rc t_rx t_w
  refine ⟨?_, ?_, ?_⟩
  · rw [x_p_ne (by omega), x_p_ne (by omega), x_p_row h, x_p_ne (by omega)]
  · rw [x_p_ne (by omega), x_p_row h, x_p_ne (by omega), x_p_ne (by omega)]
  · rw [x_p_row h, x_p_ne (by omega), x_p_ne (by omega), x_p_ne (by omega)]
theorem t_pa_rows {d : xd} {tx : Nat → Nat} {L : Nat} : ∀ c i, i < c → t_pa d tx L c 170 i = nI (tp_vb tx L (tp_P tx L i) + 1) ∧ t_pa d tx L c 171 i = nI (tp_v1 tx L (tp_P tx L i)) ∧ t_pa d tx L c 172 i = nI (tp_v2 tx L (tp_P tx L i))
  | 0, i, h => absurd h (Nat.not_lt_zero i)
  | c + 1, i, h => by
    rw [t_pa, x_p_ne (by omega), x_p_ne (by omega), x_p_ne (by omega), x_p_ne (by omega), x_p_ne (by omega), x_p_ne (by omega)]
    by_cases e : i = c
    · subst e
      exact t_rc_at
    · obtain ⟨a1, a2, a3⟩ := t_rc_row (d := t_pa d tx L c) (tx := tx) (L := L) (p := tp_P tx L c) e
      rw [a1, a2, a3]
      exact t_pa_rows c i (by omega)
theorem t_ok_rows {d : xd} {tx : Nat → Nat} {L k9 : Nat} {v : Int32} : ∀ i, i ≤ k9 → x_p (t_rc (t_pa d tx L k9) tx L (tp_P tx L k9) k9) 168 3 v 170 i = nI (tp_vb tx L (tp_P tx L i) + 1) ∧ x_p (t_rc (t_pa d tx L k9) tx L (tp_P tx L k9) k9) 168 3 v 171 i = nI (tp_v1 tx L (tp_P tx L i)) ∧ x_p (t_rc (t_pa d tx L k9) tx L (tp_P tx L k9) k9) 168 3 v 172 i = nI (tp_v2 tx L (tp_P tx L i)) := by
  intro i hi
  rw [x_p_ne (by omega), x_p_ne (by omega), x_p_ne (by omega)]
  by_cases e : i = k9
  · subst e
    exact t_rc_at
  · obtain ⟨a1, a2, a3⟩ := t_rc_row (d := t_pa d tx L k9) (tx := tx) (L := L) (p := tp_P tx L k9) e
    rw [a1, a2, a3]
    exact t_pa_rows k9 i (by omega)

