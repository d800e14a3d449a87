theorem x_p_r4 {d : xd} {k i j : Nat} {f h : Nat → Int32} {u v : Int32} (e : upd (upd f i u) j v = h) : x_p (x_p (x_r d k f) k i u) k j v = x_r d k h := by
  rw [x_p_r2 rfl]
  exact x_p_r2 e
theorem x_gt_sub {a b : Nat} (ha : a < 2 ^ 30) (hb : b < 2 ^ 30) : 0 < nI a - nI b ↔ b < a := by
  have e := pk_sub_toInt ha hb
  have z : (0 : Int32).toInt = 0 := rfl
  rw [Int32.lt_iff_toInt_lt, e, z]
  omega
theorem x_eq_sub {a b : Nat} (ha : a < 2 ^ 30) (hb : b < 2 ^ 30) : nI a - nI b = 0 ↔ a = b := by
  have e := pk_sub_toInt ha hb
  constructor
  · intro h
    rw [h] at e
    have z : (0 : Int32).toInt = 0 := rfl
    rw [z] at e
    omega
  · rintro rfl
    rw [pk_sub (Nat.le_refl a), Nat.sub_self]
    rfl
/-- how many of the first k stand ahead of i by the numbers r -/
def g_ah (r : Nat → Nat) (i : Nat) : Nat → Nat
  | 0 => 0
  | k + 1 => if r i < r k ∨ (r k = r i ∧ k < i) then g_ah r i k + 1 else g_ah r i k
theorem g_ah_le (r : Nat → Nat) (i : Nat) : ∀ k, g_ah r i k ≤ k
  | 0 => Nat.le_refl 0
  | k + 1 => by
    have h := g_ah_le r i k
    rw [g_ah]
    split <;> omega
def g_por (a0 : Nat) (sh : Nat → Nat) (n i : Nat) : Nat := f_qt a0 sh n i + (if g_ah (f_rt a0 sh n) i n < a0 - f_sn (f_qt a0 sh n) n then 1 else 0)
def g_row (z : Nat → Int32) (w : Nat) : Nat → Int32 := fun j => z (w + j)
def g_add (z : Nat → Int32) (b : Nat → Nat) (k : Nat) : Int32 := if nI (b k) < 60 - z (38 + k) then nI (b k) else 60 - z (38 + k)
def g_res (z : Nat → Int32) (b : Nat → Nat) : Nat → Int32
  | 0 => z 3
  | k + 1 => g_res z b k + (nI (b k) - g_add z b k)
def g_dl (z : Nat → Int32) (b : Nat → Nat) (k : Nat) : Nat → Int32 := fun j => if j = 3 then g_res z b k else if 38 ≤ j ∧ j < 38 + k then z j + g_add z b (j - 38) else z j
theorem g_dl_out {z : Nat → Int32} {b : Nat → Nat} {k j : Nat} (h : j ≠ 3) (h2 : j < 38 ∨ 38 + k ≤ j) : g_dl z b k j = z j := by
  simp only [g_dl]
  rw [if_neg h, if_neg (by omega)]
theorem g_dl_3 {z : Nat → Int32} {b : Nat → Nat} {k : Nat} : g_dl z b k 3 = g_res z b k := if_pos rfl
theorem g_dl_0 (z : Nat → Int32) (b : Nat → Nat) : g_dl z b 0 = z := by
  funext j
  simp only [g_dl]
  by_cases h : j = 3
  · subst h; rfl
  · rw [if_neg h, if_neg (by omega)]
theorem g_dl_s {z : Nat → Int32} {b : Nat → Nat} {k : Nat} : upd (upd (g_dl z b k) (38 + k) (z (38 + k) + g_add z b k)) 3 (g_res z b k + (nI (b k) - g_add z b k)) = g_dl z b (k + 1) := by
  funext j
  simp only [upd, g_dl]
  by_cases h : j = 3
  · simp only [if_pos h]; rfl
  · simp only [if_neg h]
    by_cases h2 : j = 38 + k
    · subst h2
      rw [if_pos rfl, if_pos (show 38 ≤ 38 + k ∧ 38 + k < 38 + (k + 1) by omega), show 38 + k - 38 = k by omega]
    · rw [if_neg h2]
      by_cases h3 : 38 ≤ j ∧ j < 38 + k
      · rw [if_pos h3, if_pos (show 38 ≤ j ∧ j < 38 + (k + 1) by omega)]
      · rw [if_neg h3, if_neg (show ¬ (38 ≤ j ∧ j < 38 + (k + 1)) by omega)]
def g_py (z : Nat → Int32) (b : Nat → Nat) (k : Nat) : Nat → Int32 := fun j => if 54 ≤ j ∧ j < 54 + k then z j + nI (b (j - 54)) else z j
theorem g_py_out {z : Nat → Int32} {b : Nat → Nat} {k j : Nat} (h2 : j < 54 ∨ 54 + k ≤ j) : g_py z b k j = z j := by
  simp only [g_py]
  rw [if_neg (by omega)]
theorem g_py_0 (z : Nat → Int32) (b : Nat → Nat) : g_py z b 0 = z := by
  funext j
  simp only [g_py]
  rw [if_neg (by omega)]
theorem g_py_s {z : Nat → Int32} {b : Nat → Nat} {k : Nat} : upd (g_py z b k) (54 + k) (z (54 + k) + nI (b k)) = g_py z b (k + 1) := by
  funext j
  simp only [upd, g_py]
  by_cases h2 : j = 54 + k
  · subst h2
    rw [if_pos rfl, if_pos (by omega), show 54 + k - 54 = k by omega]
  · rw [if_neg h2]
    by_cases h3 : 54 ≤ j ∧ j < 54 + k
    · rw [if_pos h3, if_pos (by omega)]
    · rw [if_neg h3, if_neg (by omega)]
def g_rdy (z : Nat → Int32) (i : Nat) : Bool := decide (z (30 + i) = 0 ∧ z (22 + i) ≤ z (38 + i) ∧ 0 < z (46 + i))
def g_las (z : Nat → Int32) (i : Nat) : Int32 := if z (38 + i) / z (22 + i) < z (46 + i) then z (38 + i) / z (22 + i) else z (46 + i)
def g_glow (z : Nat → Int32) (x : Int32) : Nat → Int32
  | 0 => 0
  | i + 1 => g_glow z x i + (if z (6 + i) = x ∧ g_rdy z i = true then z (22 + i) else 0)
/-- the brightest of the streets 0 .. i -/
def g_bs (f : Int32 → Int32) : Nat → Int32
  | 0 => 0
  | i + 1 => if f (g_bs f i) < f (nI (i + 1)) then nI (i + 1) else g_bs f i
def g_vot (z : Nat → Int32) (x : Int32) : Nat → Int32
  | 0 => 0
  | i + 1 => g_vot z x i + (if z (22 + i) ≤ x then z (14 + i) else 0)
def g_car (z : Nat → Int32) (n : Nat) (x : Int32) : Bool := decide (f_sum (g_row z 14) n < 2 * g_vot z x n)
def g_cap (z : Nat → Int32) (x : Int32) (k : Nat) : Nat → Int32 := fun j => if 22 ≤ j ∧ j < 22 + k then (if z j < x then z j else x) else z j
theorem g_cap_0 (z : Nat → Int32) (x : Int32) : g_cap z x 0 = z := by
  funext j
  simp only [g_cap]
  rw [if_neg (by omega)]
theorem g_cap_out {z : Nat → Int32} {x : Int32} {k j : Nat} (h : j < 22 ∨ 22 + k ≤ j) : g_cap z x k j = z j := by
  simp only [g_cap]
  rw [if_neg (by omega)]
theorem g_cap_s {z : Nat → Int32} {x : Int32} {k : Nat} : upd (g_cap z x k) (22 + k) (if z (22 + k) < x then z (22 + k) else x) = g_cap z x (k + 1) := by
  funext j
  simp only [upd, g_cap]
  by_cases h : j = 22 + k
  · subst h
    rw [if_pos rfl, if_pos (show 22 ≤ 22 + k ∧ 22 + k < 22 + (k + 1) by omega)]
  · rw [if_neg h]
    by_cases h3 : 22 ≤ j ∧ j < 22 + k
    · rw [if_pos h3, if_pos (show 22 ≤ j ∧ j < 22 + (k + 1) by omega)]
    · rw [if_neg h3, if_neg (show ¬ (22 ≤ j ∧ j < 22 + (k + 1)) by omega)]
