/-- bits -/
theorem x_bit : ∀ m, m < 256 → ∀ a, a < 8 → (m ||| 2 ^ a < 256 ∧ nI m ||| (1 <<< (nI a &&& 31)) = nI (m ||| 2 ^ a) ∧ ∀ s, s < 8 → (((nI (m ||| 2 ^ a) >>> (nI s &&& 31)) &&& 1 = 1) ↔ (((nI m >>> (nI s &&& 31)) &&& 1 = 1) ∨ s = a))) := by decide +kernel
def g_on (x : Int32) (s : Nat) : Prop := (x >>> (nI s &&& 31)) &&& 1 = 1
def g_bt (b : Nat → Bool) : Nat → Int32
  | 0 => 0
  | k + 1 => g_bt b k ||| (if b k = true then 1 <<< (nI k &&& 31) else 0)
theorem x_on0 : ∀ s, s < 8 → ¬ (((nI 0 >>> (nI s &&& 31)) &&& 1 = 1)) := by decide +kernel
theorem x_or0 : ∀ m, m < 256 → nI m ||| 0 = nI m := by decide +kernel
theorem g_bt_p (b : Nat → Bool) : ∀ n, n ≤ 8 → ∃ m, m < 256 ∧ g_bt b n = nI m ∧ ∀ s, s < 8 → (g_on (nI m) s ↔ s < n ∧ b s = true)
  | 0, _ => ⟨0, by decide, rfl, fun s hs => ⟨fun h => absurd h (x_on0 s hs), fun h => absurd h.1 (Nat.not_lt_zero s)⟩⟩
  | n + 1, h => by
    obtain ⟨m, hm, e, hp⟩ := g_bt_p b n (by omega)
    by_cases q : b n = true
    · obtain ⟨h1, h2, h3⟩ := x_bit m hm n (by omega)
      refine ⟨m ||| 2 ^ n, h1, by rw [g_bt, e, if_pos q, h2], fun s hs => ?_⟩
      have h4 := h3 s hs
      have h5 := hp s hs
      unfold g_on at *
      rw [h4, h5]
      constructor
      · rintro (z | rfl)
        · exact ⟨by omega, z.2⟩
        · exact ⟨by omega, q⟩
      · intro z
        by_cases e2 : s = n
        · exact Or.inr e2
        · exact Or.inl ⟨by omega, z.2⟩
    · refine ⟨m, hm, by rw [g_bt, e, if_neg q, x_or0 m hm], fun s hs => ?_⟩
      rw [hp s hs]
      constructor
      · intro z; exact ⟨by omega, z.2⟩
      · intro z
        refine ⟨?_, z.2⟩
        rcases Nat.lt_or_ge s n with y | y
        · exact y
        · have e2 : s = n := by omega
          subst e2
          exact absurd z.2 q
theorem g_bt_on (b : Nat → Bool) {n s : Nat} (hn : n ≤ 8) (hs : s < 8) : g_on (g_bt b n) s ↔ s < n ∧ b s = true := by
  obtain ⟨m, hm, e, hp⟩ := g_bt_p b n hn
  rw [e]
  exact hp s hs
def g_lt (b : Nat → Bool) (w : Nat → Int32) : Nat → Int32
  | 0 => 0
  | k + 1 => if b k = true then g_lt b w k ||| (1 <<< (w k &&& 31)) else g_lt b w k
/-- whether one of the first k stands in street s and burns -/
def g_ls (b : Nat → Bool) (w : Nat → Int32) (s : Nat) : Nat → Bool
  | 0 => false
  | k + 1 => g_ls b w s k || decide (w k = nI s ∧ b k = true)
theorem g_lt_p (b : Nat → Bool) (w : Nat → Int32) : ∀ n, n ≤ 8 → (∀ j, j < n → ∃ a, a < 4 ∧ w j = nI a) → ∃ m, m < 256 ∧ g_lt b w n = nI m ∧ ∀ s, s < 4 → (g_on (nI m) s ↔ g_ls b w s n = true)
  | 0, _, _ => ⟨0, by decide, rfl, fun s hs => ⟨fun h => absurd h (x_on0 s (by omega)), fun h => by simp [g_ls] at h⟩⟩
  | n + 1, h, hw => by
    obtain ⟨m, hm, e, hp⟩ := g_lt_p b w n (by omega) (fun j hj => hw j (by omega))
    obtain ⟨a, ha, ea⟩ := hw n (by omega)
    by_cases q : b n = true
    · obtain ⟨h1, h2, h3⟩ := x_bit m hm a (by omega)
      refine ⟨m ||| 2 ^ a, h1, by rw [g_lt, e, if_pos q, ea, h2], fun s hs => ?_⟩
      have h4 := h3 s (by omega)
      have h5 := hp s hs
      unfold g_on at *
      rw [h4, h5, g_ls, Bool.or_eq_true, decide_eq_true_iff, ea]
      constructor
      · rintro (z | rfl)
        · exact Or.inl z
        · exact Or.inr ⟨rfl, q⟩
      · rintro (z | z)
        · exact Or.inl z
        · exact Or.inr ((nI_eq (by omega) (by omega)).mp z.1).symm
    · refine ⟨m, hm, by rw [g_lt, e, if_neg q], fun s hs => ?_⟩
      rw [hp s hs, g_ls, Bool.or_eq_true, decide_eq_true_iff]
      exact ⟨Or.inl, fun z => z.elim id (fun y => absurd y.2 q)⟩
theorem g_lt_on (b : Nat → Bool) (w : Nat → Int32) {n s : Nat} (hn : n ≤ 8) (hw : ∀ j, j < n → ∃ a, a < 4 ∧ w j = nI a) (hs : s < 4) : g_on (g_lt b w n) s ↔ g_ls b w s n = true := by
  obtain ⟨m, hm, e, hp⟩ := g_lt_p b w n hn hw
  rw [e]
  exact hp s hs
theorem x_lt_pred0 {a : Nat} (ha : a < 1000) : nI a - 1 < 0 ↔ a = 0 := by
  have e := pk_sub_toInt (a := a) (b := 1) (by omega) (by omega)
  have z : (0 : Int32).toInt = 0 := rfl
  rw [Int32.lt_iff_toInt_lt, z, show nI a - 1 = nI a - nI 1 from rfl, e]
  omega
theorem x_pr2 {q u : Nat} (h : u < q) : nI (q - u) - 1 = nI (q - 1 - u) := (pk_sub (a := q - u) (b := 1) (by omega)).trans (congrArg nI (by omega))
theorem x_pr3 {q u : Nat} : nI (q - 1 - u) + Int32.ofInt (-1) = nI (q - (u + 1)) - 1 := by
  rw [show q - (u + 1) = q - 1 - u by omega, Int32.sub_eq_add_neg]
  rfl
/-- what moth k does; w: the lamp that it circles, at: whether that one burns -/
def g_act (z : Nat → Int32) (k w : Nat) (on9 : Bool) : Nat → Int32 := if z (74 + k) = 0 then (if on9 = true ∧ 0 < z (38 + w) then upd z (38 + w) (z (38 + w) - 1) else z) else if on9 = true then upd z (68 + k) (z (68 + k) + 1) else upd z (74 + k) (z (74 + k) - 1)
def g_at (z : Nat → Int32) (b : Nat → Bool) (k : Nat) : Bool := decide (0 ≤ z (62 + k) - 1) && b (z (62 + k) - 1).toNatClampNeg
def g_acts (z : Nat → Int32) (b : Nat → Bool) : Nat → Nat → Int32
  | 0 => z
  | k + 1 => g_act (g_acts z b k) k (z (62 + k) - 1).toNatClampNeg (g_at z b k)
theorem g_act_out {z : Nat → Int32} {k w j : Nat} {on9 : Bool} (h : j < 38 ∨ 46 ≤ j) (hw : w < 8) (h1 : j < 68 ∨ 80 ≤ j) (hk : k < 6) : g_act z k w on9 j = z j := by
  unfold g_act
  split
  · split
    · simp only [upd]; rw [if_neg (by omega)]
    · rfl
  · split
    · simp only [upd]; rw [if_neg (by omega)]
    · simp only [upd]; rw [if_neg (by omega)]
def g_lv1 (z : Nat → Int32) (w : Nat) : Nat → Int32 := if z (68 + w) = 2 then upd (g_cgp (g_cgp (g_cgp z 62 w 6) 68 w 6) 74 w 6) 1 (z 1 - 1) else z
def g_lv (z : Nat → Int32) (q : Nat) : Nat → Nat → Int32
  | 0 => z
  | u + 1 => g_lv1 (g_lv z q u) (q - 1 - u)
theorem g_lv1_out {z : Nat → Int32} {w j : Nat} (h : j < 62 ∨ 80 ≤ j) (h1 : j ≠ 1) : g_lv1 z w j = z j := by
  unfold g_lv1
  split
  · simp only [upd]
    rw [if_neg h1, g_cgp_out _ (by omega) (by omega), g_cgp_out _ (by omega) (by omega), g_cgp_out _ (by omega) (by omega)]
  · rfl
theorem g_lv_out {z : Nat → Int32} {q j : Nat} (h : j < 62 ∨ 80 ≤ j) (h1 : j ≠ 1) : ∀ u, g_lv z q u j = z j
  | 0 => rfl
  | u + 1 => by rw [g_lv, g_lv1_out h h1, g_lv_out h h1 u]
def g_n1 (z : Nat → Int32) (b : Nat → Bool) (k : Nat) : Nat → Int32 := fun j => if 38 ≤ j ∧ j < 38 + k then (if b (j - 38) = true then z j - z (22 + (j - 38)) else z j) else if 46 ≤ j ∧ j < 46 + k then (if b (j - 46) = true then z j - 1 else z j) else z j
def g_cn (b : Nat → Bool) : Nat → Int32
  | 0 => 0
  | k + 1 => if b k = true then g_cn b k + 1 else g_cn b k
theorem g_n1_out {z : Nat → Int32} {b : Nat → Bool} {k j : Nat} (h : j < 38 ∨ 38 + k ≤ j) (h2 : j < 46 ∨ 46 + k ≤ j) : g_n1 z b k j = z j := by
  simp only [g_n1]
  rw [if_neg (by omega), if_neg (by omega)]
theorem g_n1_0 (z : Nat → Int32) (b : Nat → Bool) : g_n1 z b 0 = z := by
  funext j
  exact g_n1_out (by omega) (by omega)
theorem g_n1_s {z : Nat → Int32} {b : Nat → Bool} {k : Nat} (hk : k < 8) (h : b k = true) : upd (upd (g_n1 z b k) (38 + k) (z (38 + k) - z (22 + k))) (46 + k) (z (46 + k) - 1) = g_n1 z b (k + 1) := by
  funext j
  simp only [upd, g_n1]
  by_cases h1 : j = 46 + k
  · subst h1
    rw [if_pos rfl, if_neg (by omega), if_pos (by omega), show 46 + k - 46 = k by omega, if_pos h]
  · rw [if_neg h1]
    by_cases h2 : j = 38 + k
    · subst h2
      rw [if_pos rfl, if_pos (by omega), show 38 + k - 38 = k by omega, if_pos h]
    · rw [if_neg h2]
      by_cases h3 : 38 ≤ j ∧ j < 38 + k
      · rw [if_pos h3, if_pos (show 38 ≤ j ∧ j < 38 + (k + 1) by omega)]
      · rw [if_neg h3, if_neg (show ¬ (38 ≤ j ∧ j < 38 + (k + 1)) by omega)]
        by_cases h4 : 46 ≤ j ∧ j < 46 + k
        · rw [if_pos h4, if_pos (show 46 ≤ j ∧ j < 46 + (k + 1) by omega)]
        · rw [if_neg h4, if_neg (show ¬ (46 ≤ j ∧ j < 46 + (k + 1)) by omega)]
theorem g_n1_n {z : Nat → Int32} {b : Nat → Bool} {k : Nat} (hk : k < 8) (h : ¬ b k = true) : g_n1 z b k = g_n1 z b (k + 1) := by
  funext j
  simp only [g_n1]
  by_cases h1 : j = 46 + k
  · subst h1
    rw [if_neg (by omega), if_neg (by omega), if_neg (by omega), if_pos (by omega), show 46 + k - 46 = k by omega, if_neg h]
  · by_cases h2 : j = 38 + k
    · subst h2
      rw [if_neg (by omega), if_neg (by omega), if_pos (by omega), show 38 + k - 38 = k by omega, if_neg h]
    · by_cases h3 : 38 ≤ j ∧ j < 38 + k
      · rw [if_pos h3, if_pos (show 38 ≤ j ∧ j < 38 + (k + 1) by omega)]
      · rw [if_neg h3, if_neg (show ¬ (38 ≤ j ∧ j < 38 + (k + 1)) by omega)]
        by_cases h4 : 46 ≤ j ∧ j < 46 + k
        · rw [if_pos h4, if_pos (show 46 ≤ j ∧ j < 46 + (k + 1) by omega)]
        · rw [if_neg h4, if_neg (show ¬ (46 ≤ j ∧ j < 46 + (k + 1)) by omega)]
theorem g_acts_out {z : Nat → Int32} {b : Nat → Bool} {j n q : Nat} (h : j < 38 ∨ 46 ≤ j) (h1 : j < 68 ∨ 80 ≤ j) (h8 : n ≤ 8) (h6 : q ≤ 6) (hz : ∀ k, k < q → z (62 + k) - 1 = -1 ∨ ∃ w, w < n ∧ z (62 + k) - 1 = nI w) : ∀ k, k ≤ q → g_acts z b k j = z j
  | 0, _ => rfl
  | k + 1, hk => by
    have hw : (z (62 + k) - 1).toNatClampNeg < 8 := by
      rcases hz k (by omega) with e | ⟨w, hw, e⟩
      · rw [e]; decide
      · rw [e, nI_clamp (by omega)]; omega
    rw [g_acts, g_act_out h hw h1 (by omega), g_acts_out h h1 h8 h6 hz k (by omega)]
def g_tr (x t0 : Int32) : Nat → Int32
  | 0 => t0
  | s + 1 => g_tr x t0 s + (if (x >>> (nI s &&& 31)) &&& 1 = 1 then 0 else 3)
def g_ni (z : Nat → Int32) (n q : Nat) : Nat → Int32 := g_lv (g_acts (g_n1 z (g_rdy z) n) (g_rdy z) q) q q
def g_ngt (z : Nat → Int32) (n q : Nat) : Nat → Int32 := upd (upd (g_ni z n q) 5 (g_tr (g_lt (g_rdy z) (g_row z 6) n) (z 5) 4)) 2 (z 2 + 1)
theorem x_upd2 (z : Nat → Int32) (j : Nat) (u v : Int32) : upd (upd z j u) j v = upd z j v := by
  funext k
  simp only [upd]
  by_cases h : k = j
  · rw [if_pos h, if_pos h]
  · rw [if_neg h, if_neg h, if_neg h]
theorem x_updid {z : Nat → Int32} {j : Nat} {u : Int32} (h : z j = u) : z = upd z j u := by
  subst h
  funext k
  simp only [upd]
  by_cases q : k = j
  · rw [if_pos q, q]
  · rw [if_neg q]
theorem x_upd_ne {z : Nat → Int32} {j k : Nat} {u : Int32} (h : k ≠ j) : upd z j u k = z k := by simp [upd, h]
theorem x_upd_at {z : Nat → Int32} {j : Nat} {u : Int32} : upd z j u j = u := by simp [upd]
