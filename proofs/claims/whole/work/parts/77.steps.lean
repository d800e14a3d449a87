/-! a call of the class, then the same of the model: what a step of the script is -/
theorem o_bi0 (q : Prop) [Decidable q] : (x_bi q = 0) = ¬ q := by
  unfold x_bi
  by_cases h : q <;> simp [h]
theorem o_ix {x : Int32} {n : Nat} (hn : n < 1000) (h : 0 ≤ x ∧ x < nI n) : ∃ i, i < n ∧ x = nI i := by
  rcases pk_ix x (n := n) (by omega) with h1 | h1 | h1
  · exact absurd h.1 (k2_nle h1)
  · exact absurd h.2 (k2_nlt h1)
  · exact h1
theorem o_rng {x : Int32} {lo hi : Nat} (hh : hi < 1000000) (hl : lo ≤ hi) (h : nI lo ≤ x ∧ x ≤ nI hi) : ∃ a, lo ≤ a ∧ a ≤ hi ∧ x = nI a := by
  have h0 : ¬ x < 0 := k2_nlt (Int32.le_trans (nI_pos' (by omega)) h.1)
  obtain ⟨j, hj, rfl⟩ := nI_of2 (n := hi) (nI_toInt (by omega)) h0 h.2
  exact ⟨j, (nI_leI (by omega) (by omega)).mp h.1, hj, rfl⟩
def y_fr (d d1 : xd) : Prop := ∀ k, (k = 0 ∨ (15 ≤ k ∧ k ≤ 156) ∨ 168 ≤ k) → d1 k = d k
theorem y_at {d d1 : xd} {q z : Nat} (q8 : q < 8) (hfr : y_fr (f_rem d 1 q z) d1) : d1 176 = d 176 ∧ d1 175 = d 175 := ⟨(hfr 176 (by omega)).trans (f_rem_out (by omega) q8), (hfr 175 (by omega)).trans (f_rem_out (by omega) q8)⟩
theorem y_open {B : Nat} {d : xd} (h : y_Z B d) : ∃ n w q z, r_T B d 1 (d 176) n w ∧ d 43 1 = nI q ∧ q < 8 ∧ d 43 0 = nI z ∧ z ≤ 8 ∧ d 175 3 = nI z := by
  obtain ⟨⟨n, w, t⟩, ⟨q, z, e1, e2, e3, e4, e5, -⟩, -⟩ := h
  exact ⟨n, w, q, z, t, e1, e2, e3, e4, e5⟩
theorem y_up {B B2 : Nat} {d : xd} {o n w : Nat} {g : Nat → Int32} (t : r_T B d o g n w) (hB : B ≤ B2) : r_S B2 d o g := ⟨n, w, r_T_like t (r_rows (fun _ _ _ => rfl)) (fun _ _ => rfl) hB⟩
def y_S (l : Launch) (B : Nat) (d : xd) (y : MethodName) (ws : List Cond) (av : xG → List Value) (Es : List String) (y2 : MethodName) (ws2 : List Cond) (av2 : xG → List Value) : Prop :=
  ∃ (k : Nat) (r b : Int32) (d1 d2 : xd), k ≤ 3 ∧ y_C l y ws av Es k (.int r) d d1 ∧ (∃ lv, lv ≤ 10 ∧ ∀ G, x_M G l y2 ws2 lv 0 0 (av2 G) d1 (some (.int b)) d2) ∧ d2 175 12 = nI k ∧ (k = 0 → r = b) ∧ y_Z (B + 180) d2
def y_D (l : Launch) (B : Nat) (d : xd) (y : MethodName) (ws : List Cond) (y2 : MethodName) (ws2 : List Cond) : Prop :=
  ∃ (r : Int32) (d1 d2 : xd), (∃ lv, lv ≤ 10 ∧ ∀ G, x_M G l y ws lv 0 0 [.ref (x_b G + 0)] d (some (.int r)) d1) ∧ (∃ lv, lv ≤ 10 ∧ ∀ G, x_M G l y2 ws2 lv 0 0 [.ref (x_b G + 175)] d1 (some (.int r)) d2) ∧ y_Z (B + 180) d2
section YS
variable {l : Launch} {B : Nat} {d d1 : xd} {y y2 : MethodName} {ws ws2 : List Cond} {av av2 : xG → List Value} {Es : List String} {lv lv2 : Nat} {r b : Int32}
/-- a question that is answered -/
theorem s_q (h : y_Z B d) (hlv : lv ≤ 10) (hlv2 : lv2 ≤ 10) (hc : ∀ G, x_M G l y ws lv 0 0 (av G) d (some (.int r)) d1) (hf : y_F d d1) (hm : ∀ G, x_M G l y2 ws2 lv2 0 0 (av2 G) d1 (some (.int b)) (g_th d1 0)) (hrb : r = b) : y_S l B d y ws av Es y2 ws2 av2 :=
  ⟨0, r, b, d1, g_th d1 0, by omega, ⟨lv, hlv, Or.inl ⟨rfl, hc⟩⟩, ⟨lv2, hlv2, hm⟩, x_p_at, fun _ => hrb, y_Z_F h (y_F_trans hf (y_F_th d1 0)) (by omega)⟩
/-- a question that is refused -/
theorem s_qf (h : y_Z B d) (k : Nat) (hk1 : 1 ≤ k) (hk3 : k ≤ 3) {E : String} (hE : Es[k - 1]? = some E) (hlv : lv ≤ 10) (hlv2 : lv2 ≤ 10) (hc : ∀ G, x_X G l y ws lv (av G) d E d) {x : Int32} (hx : x = nI k) (hm : ∀ G, x_M G l y2 ws2 lv2 0 0 (av2 G) d (some (.int b)) (g_th d x)) : y_S l B d y ws av Es y2 ws2 av2 :=
  ⟨k, 0, b, d, g_th d x, hk3, ⟨lv, hlv, Or.inr ⟨E, hk1, hE, hc⟩⟩, ⟨lv2, hlv2, hm⟩, by rw [← hx]; exact x_p_at, fun h0 => by omega, y_Z_F h (y_F_th d x) (by omega)⟩
/-- a change that is refused -/
theorem s_of (h : y_Z B d) (k : Nat) (hk1 : 1 ≤ k) (hk3 : k ≤ 3) {E : String} (hE : Es[k - 1]? = some E) (hlv : lv ≤ 10) (hlv2 : lv2 ≤ 10) (hc : ∀ G, x_X G l y ws lv (av G) d E d) {x : Int32} (hx : x = nI k) (hm : ∀ G, x_M G l y2 ws2 lv2 0 0 (av2 G) d (some (.int b)) (g_kf (g_th (g_bg d) x))) : y_S l B d y ws av Es y2 ws2 av2 :=
  ⟨k, 0, b, d, _, hk3, ⟨lv, hlv, Or.inr ⟨E, hk1, hE, hc⟩⟩, ⟨lv2, hlv2, hm⟩, by rw [← hx]; exact g_kf_12 d x, fun h0 => by omega, y_Z_F h (y_F_kf d x) (by omega)⟩
theorem y_opZ {q z : Nat} {g : Nat → Int32} (h : y_Z B d) (hq : d 43 1 = nI q) (q8 : q < 8) (hz : d 43 0 = nI z) (z8 : z ≤ 8) (hfr : y_fr (f_rem d 1 q z) d1) (hs : r_S (B + 180) d1 1 g) : y_Z (B + 180) (g_kp (g_ok (g_bg d1) g) z) :=
  y_op h (by omega) hq q8 hz z8 ((hfr 0 (Or.inl rfl)).trans (f_rem_out (by omega) q8)) (fun k hk => hfr k (Or.inr hk)) hs
/-- a change that is made -/
theorem s_o {q z : Nat} {g : Nat → Int32} (h : y_Z B d) (hq : d 43 1 = nI q) (q8 : q < 8) (hz : d 43 0 = nI z) (z8 : z ≤ 8) (hfr : y_fr (f_rem d 1 q z) d1) (hs : r_S (B + 180) d1 1 g) (hlv : lv ≤ 10) (hlv2 : lv2 ≤ 10) (hc : ∀ G, x_M G l y ws lv 0 0 (av G) d (some (.int r)) d1) (hm : ∀ G, x_M G l y2 ws2 lv2 0 0 (av2 G) d1 (some (.int b)) (g_kp (g_ok (g_bg d1) g) z)) (hrb : r = b) : y_S l B d y ws av Es y2 ws2 av2 :=
  ⟨0, r, b, d1, _, by omega, ⟨lv, hlv, Or.inl ⟨rfl, hc⟩⟩, ⟨lv2, hlv2, hm⟩, y_op_12, fun _ => hrb, y_opZ h hq q8 hz z8 hfr hs⟩
end YS
/-! what the class refuses -/
section OR
variable {d : xd} {n : Nat}
theorem o_ra (a b : Int32) (hn : d 2 0 = nI n) (h8 : n ≤ 8) : (f_ra d 1 a b = 0 ∧ (0 ≤ a ∧ a ≤ 3) ∧ (1 ≤ b ∧ b ≤ 9) ∧ n < 8) ∨ (f_ra d 1 a b = 2 ∧ (¬ (0 ≤ a ∧ a ≤ 3) ∨ ¬ (1 ≤ b ∧ b ≤ 9))) ∨ (f_ra d 1 a b = 3 ∧ (0 ≤ a ∧ a ≤ 3) ∧ (1 ≤ b ∧ b ≤ 9) ∧ n = 8) := by
  unfold f_ra
  simp only [o_bi0]
  by_cases ha : 0 ≤ a ∧ a ≤ 3
  · by_cases hb : 1 ≤ b ∧ b ≤ 9
    · rw [if_neg (fun q => q ha), if_neg (fun q => q hb)]
      by_cases h : n < 8
      · exact Or.inl ⟨if_pos (by show d 2 0 < 8; rw [hn]; exact nI_lt (b := 8) h (by omega)), ha, hb, h⟩
      · have e : n = 8 := by omega
        subst e
        exact Or.inr (Or.inr ⟨if_neg (by show ¬ d 2 0 < 8; rw [hn]; decide), ha, hb, rfl⟩)
    · exact Or.inr (Or.inl ⟨by rw [if_neg (fun q => q ha), if_pos hb], Or.inr hb⟩)
  · exact Or.inr (Or.inl ⟨by rw [if_pos ha], Or.inl ha⟩)
theorem o_rd (x : Int32) (hn : d 2 0 = nI n) (h8 : n ≤ 8) : (f_rd d 1 x = 0 ∧ ∃ i, i < n ∧ x = nI i ∧ d 14 1 + d 8 i ≤ 99) ∨ (f_rd d 1 x = 1 ∧ ¬ (0 ≤ x ∧ x < nI n)) ∨ (f_rd d 1 x = 3 ∧ ∃ i, i < n ∧ x = nI i ∧ ¬ d 14 1 + d 8 i ≤ 99) := by
  unfold f_rd
  simp only [o_bi0]
  show (ite (¬ (0 ≤ x ∧ x < d 2 0)) _ _ = _ ∧ _) ∨ (ite (¬ (0 ≤ x ∧ x < d 2 0)) _ _ = _ ∧ _) ∨ (ite (¬ (0 ≤ x ∧ x < d 2 0)) _ _ = _ ∧ _)
  rw [hn]
  by_cases hx : 0 ≤ x ∧ x < nI n
  · obtain ⟨i, hi, rfl⟩ := o_ix (by omega) hx
    rw [if_neg (fun q => q hx), nI_clamp (by omega)]
    by_cases h : d 14 1 + d 8 i ≤ 99
    · exact Or.inl ⟨if_pos h, i, hi, rfl, h⟩
    · exact Or.inr (Or.inr ⟨if_neg h, i, hi, rfl, h⟩)
  · exact Or.inr (Or.inl ⟨if_pos hx, hx⟩)
theorem o_rl (x v hi9 : Int32) (hn : d 2 0 = nI n) (h8 : n ≤ 8) : (f_rl d 1 x v hi9 = 0 ∧ (∃ i, i < n ∧ x = nI i) ∧ (1 ≤ v ∧ v ≤ hi9)) ∨ (f_rl d 1 x v hi9 = 1 ∧ ¬ (0 ≤ x ∧ x < nI n)) ∨ (f_rl d 1 x v hi9 = 2 ∧ (∃ i, i < n ∧ x = nI i) ∧ ¬ (1 ≤ v ∧ v ≤ hi9)) := by
  unfold f_rl
  simp only [o_bi0]
  show (ite (¬ (0 ≤ x ∧ x < d 2 0)) _ _ = _ ∧ _) ∨ (ite (¬ (0 ≤ x ∧ x < d 2 0)) _ _ = _ ∧ _) ∨ (ite (¬ (0 ≤ x ∧ x < d 2 0)) _ _ = _ ∧ _)
  rw [hn]
  by_cases hx : 0 ≤ x ∧ x < nI n
  · have hi := o_ix (by omega) hx
    rw [if_neg (fun q => q hx)]
    by_cases h : 1 ≤ v ∧ v ≤ hi9
    · exact Or.inl ⟨if_neg (fun q => q h), hi, h⟩
    · exact Or.inr (Or.inr ⟨if_pos h, hi, h⟩)
  · exact Or.inr (Or.inl ⟨if_pos hx, hx⟩)
theorem o_rdel (a : Int32) (hn : d 2 0 = nI n) (h8 : n ≤ 8) : (f_rdel d 1 a = 0 ∧ (1 ≤ a ∧ a ≤ 200) ∧ 1 ≤ n) ∨ (f_rdel d 1 a = 2 ∧ ¬ (1 ≤ a ∧ a ≤ 200)) ∨ (f_rdel d 1 a = 3 ∧ (1 ≤ a ∧ a ≤ 200) ∧ n = 0) := by
  unfold f_rdel
  simp only [o_bi0]
  by_cases ha : 1 ≤ a ∧ a ≤ 200
  · rw [if_neg (fun q => q ha)]
    show (ite (d 2 0 = 0) _ _ = _ ∧ _) ∨ _ ∨ (ite (d 2 0 = 0) _ _ = _ ∧ _)
    rw [hn]
    by_cases h : n = 0
    · subst h
      exact Or.inr (Or.inr ⟨if_pos rfl, ha, rfl⟩)
    · exact Or.inl ⟨if_neg (nI_ne0 (by omega) (by omega)), ha, by omega⟩
  · exact Or.inr (Or.inl ⟨if_pos ha, ha⟩)
theorem o_rdon (u : Int32) : (f_rdon d 1 u = 0 ∧ (1 ≤ u ∧ u ≤ 50) ∧ d 14 1 + u ≤ 99) ∨ (f_rdon d 1 u = 2 ∧ ¬ (1 ≤ u ∧ u ≤ 50)) ∨ (f_rdon d 1 u = 3 ∧ (1 ≤ u ∧ u ≤ 50) ∧ ¬ d 14 1 + u ≤ 99) := by
  unfold f_rdon
  simp only [o_bi0]
  by_cases ha : 1 ≤ u ∧ u ≤ 50
  · rw [if_neg (fun q => q ha)]
    by_cases h : d 14 1 + u ≤ 99
    · exact Or.inl ⟨if_pos h, ha, h⟩
    · exact Or.inr (Or.inr ⟨if_neg h, ha, h⟩)
  · exact Or.inr (Or.inl ⟨if_pos ha, ha⟩)
theorem o_rgive (x u : Int32) (hn : d 2 0 = nI n) (h8 : n ≤ 8) : (f_rgive d 1 x u = 0 ∧ ∃ i, i < n ∧ x = nI i ∧ (1 ≤ u ∧ u ≤ 9) ∧ ¬ d 14 1 < u ∧ ¬ 9 < d 8 i + u) ∨ (f_rgive d 1 x u = 1 ∧ ¬ (0 ≤ x ∧ x < nI n)) ∨ (f_rgive d 1 x u = 2 ∧ (∃ i, i < n ∧ x = nI i) ∧ ¬ (1 ≤ u ∧ u ≤ 9)) ∨ (f_rgive d 1 x u = 3 ∧ ∃ i, i < n ∧ x = nI i ∧ (1 ≤ u ∧ u ≤ 9) ∧ (d 14 1 < u ∨ 9 < d 8 i + u)) := by
  unfold f_rgive
  rcases o_rl x u 9 hn h8 with ⟨h0, ⟨i, hi, rfl⟩, hv⟩ | ⟨h0, hx⟩ | ⟨h0, hi, hv⟩
  · rw [if_pos h0, nI_clamp (by omega)]
    show (ite (d 14 1 < u) _ (ite (9 < d 8 i + u) _ _) = _ ∧ _) ∨ (ite (d 14 1 < u) _ (ite (9 < d 8 i + u) _ _) = _ ∧ _) ∨ (ite (d 14 1 < u) _ (ite (9 < d 8 i + u) _ _) = _ ∧ _) ∨ (ite (d 14 1 < u) _ (ite (9 < d 8 i + u) _ _) = _ ∧ _)
    by_cases h1 : d 14 1 < u
    · exact Or.inr (Or.inr (Or.inr ⟨if_pos h1, i, hi, rfl, hv, Or.inl h1⟩))
    · rw [if_neg h1]
      by_cases h2 : 9 < d 8 i + u
      · exact Or.inr (Or.inr (Or.inr ⟨if_pos h2, i, hi, rfl, hv, Or.inr h2⟩))
      · exact Or.inl ⟨if_neg h2, i, hi, rfl, hv, h1, h2⟩
  · exact Or.inr (Or.inl ⟨by rw [h0]; rfl, hx⟩)
  · exact Or.inr (Or.inr (Or.inl ⟨by rw [h0]; rfl, hi, hv⟩))
theorem o_rret (x u : Int32) (hn : d 2 0 = nI n) (h8 : n ≤ 8) : (f_rret d 1 x u = 0 ∧ ∃ i, i < n ∧ x = nI i ∧ (1 ≤ u ∧ u ≤ 9) ∧ ¬ d 8 i < u ∧ ¬ 99 < d 14 1 + u) ∨ (f_rret d 1 x u = 1 ∧ ¬ (0 ≤ x ∧ x < nI n)) ∨ (f_rret d 1 x u = 2 ∧ (∃ i, i < n ∧ x = nI i) ∧ ¬ (1 ≤ u ∧ u ≤ 9)) ∨ (f_rret d 1 x u = 3 ∧ ∃ i, i < n ∧ x = nI i ∧ (1 ≤ u ∧ u ≤ 9) ∧ (d 8 i < u ∨ 99 < d 14 1 + u)) := by
  unfold f_rret
  rcases o_rl x u 9 hn h8 with ⟨h0, ⟨i, hi, rfl⟩, hv⟩ | ⟨h0, hx⟩ | ⟨h0, hi, hv⟩
  · rw [if_pos h0, nI_clamp (by omega)]
    show (ite (d 8 i < u) _ (ite (99 < d 14 1 + u) _ _) = _ ∧ _) ∨ (ite (d 8 i < u) _ (ite (99 < d 14 1 + u) _ _) = _ ∧ _) ∨ (ite (d 8 i < u) _ (ite (99 < d 14 1 + u) _ _) = _ ∧ _) ∨ (ite (d 8 i < u) _ (ite (99 < d 14 1 + u) _ _) = _ ∧ _)
    by_cases h1 : d 8 i < u
    · exact Or.inr (Or.inr (Or.inr ⟨if_pos h1, i, hi, rfl, hv, Or.inl h1⟩))
    · rw [if_neg h1]
      by_cases h2 : 99 < d 14 1 + u
      · exact Or.inr (Or.inr (Or.inr ⟨if_pos h2, i, hi, rfl, hv, Or.inr h2⟩))
      · exact Or.inl ⟨if_neg h2, i, hi, rfl, hv, h1, h2⟩
  · exact Or.inr (Or.inl ⟨by rw [h0]; rfl, hx⟩)
  · exact Or.inr (Or.inr (Or.inl ⟨by rw [h0]; rfl, hi, hv⟩))
theorem o_rbuy (x u : Int32) (hn : d 2 0 = nI n) (h8 : n ≤ 8) : (f_rbuy d 1 x u = 0 ∧ ∃ i, i < n ∧ x = nI i ∧ (1 ≤ u ∧ u ≤ 60) ∧ ¬ d 14 0 < u ∧ ¬ 60 - d 7 i < u ∧ ¬ d 9 i < u) ∨ (f_rbuy d 1 x u = 1 ∧ ¬ (0 ≤ x ∧ x < nI n)) ∨ (f_rbuy d 1 x u = 2 ∧ (∃ i, i < n ∧ x = nI i) ∧ ¬ (1 ≤ u ∧ u ≤ 60)) ∨ (f_rbuy d 1 x u = 3 ∧ ∃ i, i < n ∧ x = nI i ∧ (1 ≤ u ∧ u ≤ 60) ∧ (d 14 0 < u ∨ 60 - d 7 i < u ∨ d 9 i < u)) := by
  unfold f_rbuy
  rcases o_rl x u 60 hn h8 with ⟨h0, ⟨i, hi, rfl⟩, hv⟩ | ⟨h0, hx⟩ | ⟨h0, hi, hv⟩
  · rw [if_pos h0, nI_clamp (by omega)]
    show (ite (d 14 0 < u) _ (ite (60 - d 7 i < u) _ (ite (d 9 i < u) _ _)) = _ ∧ _) ∨ (ite (d 14 0 < u) _ (ite (60 - d 7 i < u) _ (ite (d 9 i < u) _ _)) = _ ∧ _) ∨ (ite (d 14 0 < u) _ (ite (60 - d 7 i < u) _ (ite (d 9 i < u) _ _)) = _ ∧ _) ∨ (ite (d 14 0 < u) _ (ite (60 - d 7 i < u) _ (ite (d 9 i < u) _ _)) = _ ∧ _)
    by_cases h1 : d 14 0 < u
    · exact Or.inr (Or.inr (Or.inr ⟨if_pos h1, i, hi, rfl, hv, Or.inl h1⟩))
    · rw [if_neg h1]
      by_cases h2 : 60 - d 7 i < u
      · exact Or.inr (Or.inr (Or.inr ⟨if_pos h2, i, hi, rfl, hv, Or.inr (Or.inl h2)⟩))
      · rw [if_neg h2]
        by_cases h3 : d 9 i < u
        · exact Or.inr (Or.inr (Or.inr ⟨if_pos h3, i, hi, rfl, hv, Or.inr (Or.inr h3)⟩))
        · exact Or.inl ⟨if_neg h3, i, hi, rfl, hv, h1, h2, h3⟩
  · exact Or.inr (Or.inl ⟨by rw [h0]; rfl, hx⟩)
  · exact Or.inr (Or.inr (Or.inl ⟨by rw [h0]; rfl, hi, hv⟩))
theorem o_rpay (hn : d 2 0 = nI n) (h8 : n ≤ 8) : (f_rpay d 1 = 0 ∧ 1 ≤ n ∧ ¬ d 14 2 = 0) ∨ (f_rpay d 1 = 3 ∧ (n = 0 ∨ d 14 2 = 0)) := by
  unfold f_rpay
  show (ite (d 2 0 = 0) _ (ite (d 14 2 = 0) _ _) = _ ∧ _) ∨ (ite (d 2 0 = 0) _ (ite (d 14 2 = 0) _ _) = _ ∧ _)
  rw [hn]
  by_cases h : n = 0
  · subst h
    exact Or.inr ⟨if_pos rfl, Or.inl rfl⟩
  · rw [if_neg (nI_ne0 (by omega) (by omega))]
    by_cases h2 : d 14 2 = 0
    · exact Or.inr ⟨if_pos h2, Or.inr h2⟩
    · exact Or.inl ⟨if_neg h2, by omega, h2⟩
theorem o_rpor (x a : Int32) (hn : d 2 0 = nI n) (h8 : n ≤ 8) : (f_rpor d 1 x a = 0 ∧ (∃ i, i < n ∧ x = nI i) ∧ (0 ≤ a ∧ a ≤ 999)) ∨ (f_rpor d 1 x a = 1 ∧ ¬ (0 ≤ x ∧ x < nI n)) ∨ (f_rpor d 1 x a = 2 ∧ (∃ i, i < n ∧ x = nI i) ∧ ¬ (0 ≤ a ∧ a ≤ 999)) := by
  unfold f_rpor
  simp only [o_bi0]
  show (ite (¬ (0 ≤ x ∧ x < d 2 0)) _ _ = _ ∧ _) ∨ (ite (¬ (0 ≤ x ∧ x < d 2 0)) _ _ = _ ∧ _) ∨ (ite (¬ (0 ≤ x ∧ x < d 2 0)) _ _ = _ ∧ _)
  rw [hn]
  by_cases hx : 0 ≤ x ∧ x < nI n
  · have hi := o_ix (by omega) hx
    rw [if_neg (fun q => q hx)]
    by_cases h : 0 ≤ a ∧ a ≤ 999
    · exact Or.inl ⟨if_neg (fun q => q h), hi, h⟩
    · exact Or.inr (Or.inr ⟨if_pos h, hi, h⟩)
  · exact Or.inr (Or.inl ⟨if_pos hx, hx⟩)
theorem o_ram {w : Nat} (x : Int32) (hn : d 2 0 = nI n) (h8 : n ≤ 8) (hw : d 10 0 = nI w) (h6 : w ≤ 6) : (f_ram d 1 x = 0 ∧ (∃ i, i < n ∧ x = nI i) ∧ w < 6) ∨ (f_ram d 1 x = 1 ∧ ¬ (0 ≤ x ∧ x < nI n)) ∨ (f_ram d 1 x = 3 ∧ (∃ i, i < n ∧ x = nI i) ∧ w = 6) := by
  unfold f_ram
  simp only [o_bi0]
  show (ite (¬ (0 ≤ x ∧ x < d 2 0)) _ (ite (d 10 0 < 6) _ _) = _ ∧ _) ∨ (ite (¬ (0 ≤ x ∧ x < d 2 0)) _ (ite (d 10 0 < 6) _ _) = _ ∧ _) ∨ (ite (¬ (0 ≤ x ∧ x < d 2 0)) _ (ite (d 10 0 < 6) _ _) = _ ∧ _)
  rw [hn, hw]
  by_cases hx : 0 ≤ x ∧ x < nI n
  · have hi := o_ix (by omega) hx
    rw [if_neg (fun q => q hx)]
    by_cases h : w < 6
    · exact Or.inl ⟨if_pos (nI_lt (b := 6) h (by omega)), hi, h⟩
    · have e : w = 6 := by omega
      subst e
      exact Or.inr (Or.inr ⟨if_neg (by decide), hi, rfl⟩)
  · exact Or.inr (Or.inl ⟨if_pos hx, hx⟩)
theorem o_rpro (x : Int32) (hn : d 2 0 = nI n) (h8 : n ≤ 8) : (f_rpro d 1 x = 0 ∧ (1 ≤ x ∧ x ≤ 5) ∧ 1 ≤ n) ∨ (f_rpro d 1 x = 2 ∧ ¬ (1 ≤ x ∧ x ≤ 5)) ∨ (f_rpro d 1 x = 3 ∧ (1 ≤ x ∧ x ≤ 5) ∧ n = 0) := by
  unfold f_rpro
  simp only [o_bi0]
  by_cases ha : 1 ≤ x ∧ x ≤ 5
  · rw [if_neg (fun q => q ha)]
    show (ite (d 2 0 = 0) _ _ = _ ∧ _) ∨ _ ∨ (ite (d 2 0 = 0) _ _ = _ ∧ _)
    rw [hn]
    by_cases h : n = 0
    · subst h
      exact Or.inr (Or.inr ⟨if_pos rfl, ha, rfl⟩)
    · exact Or.inl ⟨if_neg (nI_ne0 (by omega) (by omega)), ha, by omega⟩
  · exact Or.inr (Or.inl ⟨if_pos ha, ha⟩)
end OR
