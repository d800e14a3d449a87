theorem va_cpy_0 (f g : Nat → Int32) (a t : Nat) : va_cpy f g a t 0 = g := by
  funext j
  simp only [va_cpy]
  rw [if_neg (by omega)]
theorem va_cpy_s (f g : Nat → Int32) (a t i : Nat) : upd (va_cpy f g a t i) (t + i) (f (a + i)) = va_cpy f g a t (i + 1) := by
  funext j
  simp only [upd, va_cpy]
  by_cases h : j = t + i
  · subst h
    rw [if_pos rfl, if_pos (by omega)]
    congr 1
    omega
  · rw [if_neg h]
    by_cases h2 : t ≤ j ∧ j < t + i
    · rw [if_pos h2, if_pos (by omega)]
    · rw [if_neg h2, if_neg (by omega)]
def g_bg (d : xd) : xd := x_r d 177 (va_cpy (d 176) (d 177) 0 0 80)
abbrev g_th (d : xd) (k : Int32) : xd := x_p d 175 12 k
def g_kf (d : xd) : xd := x_r d 176 (va_cpy (d 177) (d 176) 0 0 80)
def g_kn (d : xd) (c : Nat) : xd := x_p (x_r d 178 (va_cpy (d 177) (d 178) 0 (c * 80) 80)) 175 3 (nI (c + 1))
def g_sh (d : xd) : Nat → Int32 := f_fill (fun j => d 178 (j + 80)) (d 178) 560
def g_ks (d : xd) : xd := x_p (x_r (x_p (x_r d 178 (g_sh d)) 175 3 7) 178 (va_cpy (d 177) (g_sh d) 0 560 80)) 175 3 8
def g_kp (d : xd) (c : Nat) : xd := if c = 8 then g_ks d else g_kn d c

theorem x_le_pred {x : Int32} {n : Nat} (h : n < 1000) : x ≤ nI n - 1 ↔ x < nI n := by
  have e1 : (nI n).toInt = n := nI_toInt (by omega)
  have e2 : (nI n - 1).toInt = (n : Int) - 1 := by
    have := pk_sub_toInt (a := n) (b := 1) (by omega) (by omega)
    exact this
  rw [Int32.le_iff_toInt_le, Int32.lt_iff_toInt_lt, e1, e2]
  omega
theorem x_bi_iff {a b : Prop} [Decidable a] [Decidable b] (h : a ↔ b) : x_bi a = x_bi b := by
  unfold x_bi
  by_cases q : a
  · rw [if_pos q, if_pos (h.mp q)]
  · rw [if_neg q, if_neg (fun z => q (h.mpr z))]

theorem x_r_r {d : xd} {k : Nat} {f g : Nat → Int32} : x_r (x_r d k f) k g = x_r d k g := by
  funext q
  by_cases h : q = k
  · subst h; simp [x_r]
  · simp [x_r, h]
abbrev g_ok (d : xd) (f : Nat → Int32) : xd := x_p (x_r d 176 f) 175 12 0
theorem x_bi_ne {c : Prop} [Decidable c] (h : c) : ¬ x_bi c = 0 := by rw [x_bi_t h]; decide
theorem x_in {i n : Nat} (h : i < n) (hn : n < 1000) : 0 ≤ nI i ∧ nI i < nI n := ⟨nI_pos' (by omega), (nI_ltI (by omega) (by omega)).mpr h⟩
