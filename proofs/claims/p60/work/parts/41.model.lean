theorem x_nI_ne {n k : Nat} (h : n < k) (hk : k < 1000) : ¬ nI n = nI k := fun e => by
  have := (nI_eq (by omega) (by omega)).mp e
  omega
def g_adds (z : Nat → Int32) (a b : Int32) (n : Nat) : Nat → Int32 := upd (upd (upd (upd (upd (upd (upd (upd (z) (6 + n) (a)) (14 + n) (b)) (22 + n) (1)) (30 + n) (0)) (38 + n) (0)) (46 + n) (0)) (54 + n) (0)) (0) ((nI (n + 1)))
def g_clg (z : Nat → Int32) (w p i : Nat) : Nat → Int32 := fun j => if w + p ≤ j ∧ j < w + i then z (j + 1) else z j
def g_cgp (z : Nat → Int32) (w p k : Nat) : Nat → Int32 := fun j => if j = w + k - 1 then 0 else if w + p ≤ j ∧ j < w + k - 1 then z (j + 1) else z j
theorem g_clg_0 (z : Nat → Int32) (w p : Nat) : g_clg z w p p = z := by
  funext j
  simp only [g_clg]
  rw [if_neg (by omega)]
theorem g_clg_s (z : Nat → Int32) {w p i : Nat} (h : p ≤ i) : upd (g_clg z w p i) (w + i) (z (w + i + 1)) = g_clg z w p (i + 1) := by
  funext j
  simp only [upd, g_clg]
  by_cases q : j = w + i
  · subst q
    rw [if_pos rfl, if_pos (by omega)]
  · rw [if_neg q]
    by_cases q2 : w + p ≤ j ∧ j < w + i
    · rw [if_pos q2, if_pos (by omega)]
    · rw [if_neg q2, if_neg (by omega)]
theorem g_clg_e (z : Nat → Int32) {w p k : Nat} (h : p < k) : upd (g_clg z w p (k - 1)) (w + k - 1) 0 = g_cgp z w p k := by
  funext j
  simp only [upd, g_clg, g_cgp]
  by_cases q : j = w + k - 1
  · rw [if_pos q, if_pos q]
  · rw [if_neg q, if_neg q]
    by_cases q2 : w + p ≤ j ∧ j < w + k - 1
    · rw [if_pos q2, if_pos (by omega)]
    · rw [if_neg q2, if_neg (by omega)]
def g_gaps (z : Nat → Int32) (i : Nat) : Nat → Nat → Int32
  | 0 => z
  | w + 1 => g_cgp (g_gaps z i w) (6 + 8 * w) i 8
def g_bk (z : Nat → Int32) (i : Nat) : Nat → Int32 := upd (upd (upd z 3 (z 3 + z (38 + i))) 4 (z 4 + z (46 + i))) 5 (z 5 + z (54 + i))
/-- what the moths circle when lamp i has gone -/
def g_fg (z : Nat → Int32) (i k : Nat) : Nat → Int32 := fun j => if 62 ≤ j ∧ j < 62 + k then (if z j - 1 = nI i then 0 else if nI i < z j - 1 then z j - 1 else z j - 1 + 1) else z j
def g_rmv (z : Nat → Int32) (i n q : Nat) : Nat → Int32 := upd (g_fg (g_gaps (g_bk z i) i 7) i q) 0 (nI (n - 1))
theorem g_cgp_out (z : Nat → Int32) {w p k j : Nat} (hk : 0 < k) (h : j < w ∨ w + k ≤ j) : g_cgp z w p k j = z j := by
  simp only [g_cgp]
  rw [if_neg (by omega), if_neg (by omega)]
theorem g_gaps_out (z : Nat → Int32) {i j : Nat} (h : j < 6 ∨ 62 ≤ j) : ∀ w, w ≤ 7 → g_gaps z i w j = z j
  | 0, _ => rfl
  | w + 1, hw => by rw [g_gaps, g_cgp_out _ (by omega) (by omega), g_gaps_out z h w (by omega)]
theorem g_fg_s (z : Nat → Int32) (i k : Nat) {v : Int32} (h : v = if z (62 + k) - 1 = nI i then 0 else if nI i < z (62 + k) - 1 then z (62 + k) - 1 else z (62 + k) - 1 + 1) : upd (g_fg z i k) (62 + k) v = g_fg z i (k + 1) := by
  subst h
  funext j
  simp only [upd, g_fg]
  by_cases q : j = 62 + k
  · subst q
    rw [if_pos rfl, if_pos (show 62 ≤ 62 + k ∧ 62 + k < 62 + (k + 1) by omega)]
  · rw [if_neg q]
    by_cases q2 : 62 ≤ j ∧ j < 62 + k
    · rw [if_pos q2, if_pos (show 62 ≤ j ∧ j < 62 + (k + 1) by omega)]
    · rw [if_neg q2, if_neg (show ¬ (62 ≤ j ∧ j < 62 + (k + 1)) by omega)]
theorem g_fg_0 (z : Nat → Int32) (i : Nat) : g_fg z i 0 = z := by
  funext j
  simp only [g_fg]
  rw [if_neg (by omega)]
theorem g_fg_out (z : Nat → Int32) {i k j : Nat} (h : j < 62 ∨ 62 + k ≤ j) : g_fg z i k j = z j := by
  simp only [g_fg]
  rw [if_neg (by omega)]
def g_buys (z : Nat → Int32) (u : Int32) (i : Nat) : Nat → Int32 := upd (upd (upd (upd (z) (3) (((z 3) - u))) (38 + i) (((z (38 + i)) + u))) (54 + i) (((z (54 + i)) - u))) (5) (((z 5) + u))
def g_addm (z : Nat → Int32) (i q : Nat) : Nat → Int32 := upd (upd (upd (upd (z) (62 + q) (((nI i) + 1))) (68 + q) (0)) (74 + q) (3)) (1) ((nI (q + 1)))
