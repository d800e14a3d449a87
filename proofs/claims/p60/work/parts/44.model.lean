theorem x_chr {k : Nat} (h : k < 65536) : ((nI k).toUInt32 % 65536).toInt32 = nI k := by
  rw [pk_char]
  congr 1
  have e : (nI k).toBitVec.toNat = k := by
    show (BitVec.ofNat 32 k).toNat = k
    rw [BitVec.toNat_ofNat]
    omega
  rw [e]
  omega
theorem x_chn {k : Nat} (h : k < 65536) : vp_nar .char (nI k) = nI k := by
  unfold vp_nar
  rw [(pk_charN h).1]
def g_w1 (d : xd) (k a : Nat) : xd := x_p (x_p d 181 k (nI a)) 175 11 (nI (k + 1))
def g_w2 (d : xd) (k a v : Nat) : xd := if v < 10 then g_w1 (g_w1 d k a) (k + 1) (48 + v) else g_w1 (g_w1 (g_w1 d k a) (k + 1) (48 + v / 10)) (k + 2) (48 + v % 10)
def g_wl (k v : Nat) : Nat := if v < 10 then k + 2 else k + 3
theorem g_w1_11 (d : xd) (k a : Nat) : g_w1 d k a 175 11 = nI (k + 1) := by
  unfold g_w1
  rw [x_p_at]
theorem g_w1_out {d : xd} {k a j : Nat} (h : j ≠ 181) (h2 : j ≠ 175) : g_w1 d k a j = d j := by
  unfold g_w1
  rw [x_p_ne h2, x_p_ne h]
theorem g_w2_11 (d : xd) (k a v : Nat) : g_w2 d k a v 175 11 = nI (g_wl k v) := by
  unfold g_w2 g_wl
  split <;> rw [g_w1_11]
theorem g_w2_out {d : xd} {k a v j : Nat} (h : j ≠ 181) (h2 : j ≠ 175) : g_w2 d k a v j = d j := by
  unfold g_w2
  split <;> simp only [g_w1_out h h2]
theorem g_wl_le (k v : Nat) : k + 2 ≤ g_wl k v ∧ g_wl k v ≤ k + 3 := by
  unfold g_wl
  split <;> omega
def g_wd (d : xd) (i a b v w : Nat) : xd := g_w2 (g_w2 (g_w2 (g_w2 (g_w1 (x_p d 175 11 0) 0 (48 + i)) 1 58 a) (g_wl 1 a) 42 b) (g_wl (g_wl 1 a) b) 111 v) (g_wl (g_wl (g_wl 1 a) b) v) 119 w
def g_wk (a b v w : Nat) : Nat := g_wl (g_wl (g_wl (g_wl 1 a) b) v) w
def g_we (d : xd) (i a b v w : Nat) (off : Bool) : xd := if off = true then g_w1 (g_wd d i a b v w) (g_wk a b v w) 33 else g_wd d i a b v w
def g_wn (a b v w : Nat) (off : Bool) : Nat := if off = true then g_wk a b v w + 1 else g_wk a b v w
theorem x_cin {x : Int32} {n : Nat} (hn : n < 1000) : (0 ≤ x ∧ x ≤ nI n - 1) ↔ (0 ≤ x ∧ x < nI n) := by rw [x_le_pred hn]
