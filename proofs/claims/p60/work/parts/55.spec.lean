/-! what a text means: tx its characters, L its length -/
def tp_c (tx : Nat → Nat) (L p a : Nat) : Bool := decide (p < L ∧ tx p = a)
def tp_dg (tx : Nat → Nat) (L p : Nat) : Bool := decide (p < L ∧ 48 ≤ tx p ∧ tx p ≤ 57)
/-- how many figures stand from q on, at most k -/
def tp_dc (tx : Nat → Nat) (L q : Nat) : Nat → Nat
  | 0 => 0
  | k + 1 => if tp_dc tx L q k = k ∧ tp_dg tx L (q + k) = true then k + 1 else tp_dc tx L q k
def tp_rd (tx : Nat → Nat) (q : Nat) : Nat → Nat
  | 0 => 0
  | k + 1 => 10 * tp_rd tx q k + (tx (q + k) - 48)
/-- a value at p of at most m figures: does it stand there, where does the reading stand behind it, what is it -/
def tp_vo (tx : Nat → Nat) (L p : Nat) : Bool := tp_c tx L p 32 && tp_dg tx L (p + 1)
def tp_vp (tx : Nat → Nat) (L p m : Nat) : Nat := if tp_c tx L p 32 = true then (if tp_dg tx L (p + 1) = true then p + 1 + tp_dc tx L (p + 1) m else p + 1) else p
def tp_vv (tx : Nat → Nat) (L p m : Nat) : Nat := tp_rd tx (p + 1) (tp_dc tx L (p + 1) m)
/-- how far word v goes from p on -/
def tp_mg (tx : Nat → Nat) (L p v : Nat) : Nat → Nat
  | 0 => 0
  | k + 1 => if tp_mg tx L p v k = k ∧ tp_c tx L (p + k) (x_wN v k) = true then k + 1 else tp_mg tx L p v k
def tp_ml (tx : Nat → Nat) (L p v : Nat) : Nat := tp_mg tx L p v (x_wL v)
def tp_mx (tx : Nat → Nat) (L p : Nat) : Nat → Nat
  | 0 => 0
  | i + 1 => max (tp_mx tx L p i) (tp_ml tx L p i)
def tp_fv (tx : Nat → Nat) (L p : Nat) : Nat → Nat
  | 0 => 13
  | i + 1 => if tp_fv tx L p i < 13 then tp_fv tx L p i else if tp_ml tx L p i = x_wL i then i else 13
def tp_vb (tx : Nat → Nat) (L p : Nat) : Nat := tp_fv tx L p 13
def tp_vd (v : Nat) : Nat := (x_vd v).toNatClampNeg
def tp_vn (v : Nat) : Nat := if x_vh v = 0 then tp_vd v else tp_vd v + 1
def tp_m (v a : Nat) : Nat := if a < tp_vd v then 1 else 3
/-- where the reading stands behind a values of the verb v, from q on -/
def tp_ap (tx : Nat → Nat) (L v q : Nat) : Nat → Nat
  | 0 => q
  | a + 1 => tp_vp tx L (tp_ap tx L v q a) (tp_m v a)
/-- how many of the first k values stand there -/
def tp_af (tx : Nat → Nat) (L v q : Nat) : Nat → Nat
  | 0 => 0
  | a + 1 => if tp_af tx L v q a = a ∧ tp_vo tx L (tp_ap tx L v q a) = true then a + 1 else tp_af tx L v q a
def tp_co (tx : Nat → Nat) (L p : Nat) : Prop := tp_vb tx L p < 13 ∧ tp_af tx L (tp_vb tx L p) (p + x_wL (tp_vb tx L p)) (tp_vn (tp_vb tx L p)) = tp_vn (tp_vb tx L p)
def tp_ce (tx : Nat → Nat) (L p : Nat) : Nat := if tp_vb tx L p < 13 then (if tp_af tx L (tp_vb tx L p) (p + x_wL (tp_vb tx L p)) (tp_vn (tp_vb tx L p)) = tp_vn (tp_vb tx L p) then tp_ap tx L (tp_vb tx L p) (p + x_wL (tp_vb tx L p)) (tp_vn (tp_vb tx L p)) else tp_ap tx L (tp_vb tx L p) (p + x_wL (tp_vb tx L p)) (tp_af tx L (tp_vb tx L p) (p + x_wL (tp_vb tx L p)) (tp_vn (tp_vb tx L p)) + 1)) else p + tp_mx tx L p 13
def tp_v1 (tx : Nat → Nat) (L p : Nat) : Nat := if 1 ≤ tp_vn (tp_vb tx L p) then tp_vv tx L (p + x_wL (tp_vb tx L p)) (tp_m (tp_vb tx L p) 0) else 0
def tp_v2 (tx : Nat → Nat) (L p : Nat) : Nat := if 2 ≤ tp_vn (tp_vb tx L p) then tp_vv tx L (tp_ap tx L (tp_vb tx L p) (p + x_wL (tp_vb tx L p)) 1) (tp_m (tp_vb tx L p) 1) else 0
/-- where command c begins -/
def tp_P (tx : Nat → Nat) (L : Nat) : Nat → Nat
  | 0 => 0
  | c + 1 => tp_ce tx L (tp_P tx L c) + 1
theorem tp_dc_le (tx : Nat → Nat) (L q : Nat) : ∀ k, tp_dc tx L q k ≤ k
  | 0 => Nat.le_refl 0
  | k + 1 => by
    have h := tp_dc_le tx L q k
    rw [tp_dc]
    split <;> omega
theorem tp_dc_in (tx : Nat → Nat) (L q : Nat) : ∀ k, tp_dc tx L q k = 0 ∨ q + tp_dc tx L q k ≤ L
  | 0 => Or.inl rfl
  | k + 1 => by
    have h := tp_dc_in tx L q k
    rw [tp_dc]
    split
    · rename_i z
      have := of_decide_eq_true z.2
      exact Or.inr (by omega)
    · exact h
theorem tp_rd_lt (tx : Nat → Nat) (q : Nat) (L : Nat) : ∀ k, (∀ j, j < k → tp_dg tx L (q + j) = true) → tp_rd tx q k < 10 ^ k
  | 0, _ => by simp [tp_rd]
  | k + 1, h => by
    have h1 := tp_rd_lt tx q L k (fun j hj => h j (by omega))
    have h2 := of_decide_eq_true (h k (by omega))
    rw [tp_rd, Nat.pow_succ]
    omega
theorem tp_dc_all (tx : Nat → Nat) (L q : Nat) : ∀ k j, j < tp_dc tx L q k → tp_dg tx L (q + j) = true
  | 0, j, h => absurd h (Nat.not_lt_zero j)
  | k + 1, j, h => by
    rw [tp_dc] at h
    split at h
    · rename_i z
      rcases Nat.lt_or_ge j k with q1 | q1
      · exact tp_dc_all tx L q k j (by omega)
      · have e : j = k := by omega
        subst e
        exact z.2
    · exact tp_dc_all tx L q k j h
theorem tp_dc_stop (tx : Nat → Nat) (L q k : Nat) (h : ¬ (tp_dc tx L q k = k ∧ tp_dg tx L (q + k) = true)) (hk : tp_dc tx L q k = k) : ∀ w, k ≤ w → tp_dc tx L q w = k := by
  intro w hw
  induction w with
  | zero => have e : k = 0 := by omega
            subst e; rfl
  | succ w ih =>
    rcases Nat.lt_or_ge k (w + 1) with z | z
    · have h1 := ih (by omega)
      rw [tp_dc]
      by_cases e : w = k
      · subst e
        rw [if_neg h, hk]
      · rw [if_neg (fun y => by omega), h1]
    · have e : k = w + 1 := by omega
      subst e; exact hk
theorem tp_mg_le (tx : Nat → Nat) (L p v : Nat) : ∀ k, tp_mg tx L p v k ≤ k
  | 0 => Nat.le_refl 0
  | k + 1 => by
    have h := tp_mg_le tx L p v k
    rw [tp_mg]
    split <;> omega
theorem tp_mg_in (tx : Nat → Nat) (L p v : Nat) : ∀ k, tp_mg tx L p v k = 0 ∨ p + tp_mg tx L p v k ≤ L
  | 0 => Or.inl rfl
  | k + 1 => by
    have h := tp_mg_in tx L p v k
    rw [tp_mg]
    split
    · rename_i z
      have := of_decide_eq_true z.2
      exact Or.inr (by omega)
    · exact h
theorem tp_mg_stop (tx : Nat → Nat) (L p v k : Nat) (h : ¬ tp_c tx L (p + k) (x_wN v k) = true) (hk : tp_mg tx L p v k = k) : ∀ w, k ≤ w → tp_mg tx L p v w = k := by
  intro w hw
  induction w with
  | zero => have e : k = 0 := by omega
            subst e; rfl
  | succ w ih =>
    rcases Nat.lt_or_ge k (w + 1) with z | z
    · have h1 := ih (by omega)
      rw [tp_mg]
      by_cases e : w = k
      · subst e
        rw [if_neg (fun y => h y.2), hk]
      · rw [if_neg (fun y => by omega), h1]
    · have e : k = w + 1 := by omega
      subst e; exact hk
theorem tp_mx_le (tx : Nat → Nat) (L p : Nat) : ∀ i, i ≤ 13 → tp_mx tx L p i ≤ 6
  | 0, _ => by simp [tp_mx]
  | i + 1, h => by
    have h1 := tp_mx_le tx L p i (by omega)
    have h2 := tp_mg_le tx L p i (x_wL i)
    have h3 := x_wL_lt i (by omega)
    rw [tp_mx]
    unfold tp_ml
    omega
theorem tp_fv_no (tx : Nat → Nat) (L p : Nat) : ∀ i, (∀ j, j < i → ¬ tp_ml tx L p j = x_wL j) → tp_fv tx L p i = 13
  | 0, _ => rfl
  | i + 1, h => by
    have h1 := tp_fv_no tx L p i (fun j hj => h j (by omega))
    rw [tp_fv, h1, if_neg (by omega), if_neg (h i (by omega))]
theorem tp_fv_yes (tx : Nat → Nat) (L p k : Nat) (hk : k < 13) (h0 : ∀ j, j < k → ¬ tp_ml tx L p j = x_wL j) (h1 : tp_ml tx L p k = x_wL k) : ∀ i, k < i → tp_fv tx L p i = k := by
  intro i hi
  induction i with
  | zero => exact absurd hi (Nat.not_lt_zero k)
  | succ i ih =>
    rw [tp_fv]
    rcases Nat.lt_or_ge k i with z | z
    · rw [ih z, if_pos hk]
    · have e : i = k := by omega
      subst e
      rw [tp_fv_no tx L p i h0, if_neg (by omega), if_pos h1]
theorem tp_fv_cases (tx : Nat → Nat) (L p : Nat) : ∀ i, i ≤ 13 → (tp_fv tx L p i = 13 ∧ ∀ j, j < i → ¬ tp_ml tx L p j = x_wL j) ∨ (tp_fv tx L p i < i ∧ tp_ml tx L p (tp_fv tx L p i) = x_wL (tp_fv tx L p i) ∧ ∀ j, j < tp_fv tx L p i → ¬ tp_ml tx L p j = x_wL j)
  | 0, _ => Or.inl ⟨rfl, fun j h => absurd h (Nat.not_lt_zero j)⟩
  | i + 1, h => by
    rcases tp_fv_cases tx L p i (by omega) with ⟨h1, h2⟩ | ⟨h1, h2, h3⟩
    · by_cases q : tp_ml tx L p i = x_wL i
      · have e := tp_fv_yes tx L p i (by omega) h2 q (i + 1) (by omega)
        rw [e]
        exact Or.inr ⟨by omega, q, h2⟩
      · refine Or.inl ⟨by rw [tp_fv, h1, if_neg (by omega), if_neg q], fun j hj => ?_⟩
        rcases Nat.lt_or_ge j i with z | z
        · exact h2 j z
        · have e : j = i := by omega
          subst e; exact q
    · have e : tp_fv tx L p (i + 1) = tp_fv tx L p i := by rw [tp_fv, if_pos (by omega)]
      rw [e]
      exact Or.inr ⟨by omega, h2, h3⟩
theorem tp_vd_ok : ∀ v, v < 13 → (x_vd v = nI (tp_vd v) ∧ tp_vd v ≤ 2 ∧ tp_vn v ≤ 2 ∧ (x_vh v = 0 ∨ x_vh v = 1) ∧ (tp_vn v = tp_vd v ∨ tp_vn v = tp_vd v + 1)) := by decide +kernel
theorem tp_c_lt {tx : Nat → Nat} {L p a : Nat} (h : tp_c tx L p a = true) : p < L := (of_decide_eq_true h).1
theorem tp_vp_le {tx : Nat → Nat} {L p w : Nat} (h : p ≤ L) : tp_vp tx L p w ≤ L := by
  unfold tp_vp
  split
  · rename_i h1
    have := tp_c_lt h1
    split
    · rename_i h2
      have h3 := (of_decide_eq_true h2).1
      rcases tp_dc_in tx L (p + 1) w with e | e
      · rw [e]; omega
      · omega
    · omega
  · exact h
theorem tp_ap_le {tx : Nat → Nat} {L v q : Nat} (h : q ≤ L) : ∀ a, tp_ap tx L v q a ≤ L
  | 0 => h
  | a + 1 => tp_vp_le (tp_ap_le h a)
theorem tp_af_le (tx : Nat → Nat) (L v q : Nat) : ∀ a, tp_af tx L v q a ≤ a
  | 0 => Nat.le_refl 0
  | a + 1 => by
    have h := tp_af_le tx L v q a
    rw [tp_af]
    split <;> omega
theorem tp_af_stop (tx : Nat → Nat) (L v q k : Nat) (h : ¬ tp_vo tx L (tp_ap tx L v q k) = true) (hk : tp_af tx L v q k = k) : ∀ w, k ≤ w → tp_af tx L v q w = k := by
  intro w hw
  induction w with
  | zero => have e : k = 0 := by omega
            subst e; rfl
  | succ w ih =>
    rcases Nat.lt_or_ge k (w + 1) with z | z
    · have h1 := ih (by omega)
      rw [tp_af]
      by_cases e : w = k
      · subst e
        rw [if_neg (fun y => h y.2), hk]
      · rw [if_neg (fun y => by omega), h1]
    · have e : k = w + 1 := by omega
      subst e; exact hk
theorem tp_af_pre (tx : Nat → Nat) (L v q : Nat) : ∀ k a, a ≤ tp_af tx L v q k → tp_af tx L v q a = a
  | 0, a, h => by
    have e : a = 0 := by
      have := tp_af_le tx L v q 0
      omega
    subst e; rfl
  | k + 1, a, h => by
    by_cases z : tp_af tx L v q k = k ∧ tp_vo tx L (tp_ap tx L v q k) = true
    · have e : tp_af tx L v q (k + 1) = k + 1 := by rw [tp_af, if_pos z]
      rcases Nat.lt_or_ge a (k + 1) with y | y
      · exact tp_af_pre tx L v q k a (by omega)
      · have e2 : a = k + 1 := by omega
        subst e2; exact e
    · have e : tp_af tx L v q (k + 1) = tp_af tx L v q k := by rw [tp_af, if_neg z]
      exact tp_af_pre tx L v q k a (by omega)

