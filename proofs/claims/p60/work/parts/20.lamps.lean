/-! plain functions -/
def f_sum (f : Nat → Int32) : Nat → Int32
  | 0 => 0
  | n + 1 => f_sum f n + f n
theorem x_bi_t {c : Prop} [Decidable c] (h : c) : x_bi c = 1 := if_pos h
theorem x_bi_f {c : Prop} [Decidable c] (h : ¬ c) : x_bi c = 0 := if_neg h
theorem x_bi_z {c : Prop} [Decidable c] (h : x_bi c = 0) : ¬ c := by
  intro q
  rw [x_bi_t q] at h
  exact absurd h (by decide)
theorem x_bi_nz {c : Prop} [Decidable c] (h : ¬ x_bi c = 0) : c := by
  by_cases q : c
  · exact q
  · exact absurd (x_bi_f q) h
theorem x_ge {i n : Nat} (h : nI n ≤ nI i) (hi : i ≤ n) (hn : n < 1000) : i = n := by
  have := (nI_leI (by omega) (by omega)).mp h
  omega
theorem x_nge {i n : Nat} (h : ¬ nI n ≤ nI i) (hi : i ≤ n) : i < n := by
  rcases Nat.lt_or_ge i n with q | q
  · exact q
  · have e : i = n := by omega
    subst e
    exact absurd (Int32.le_refl _) h
theorem x_r_id (d : xd) (k : Nat) : d = x_r d k (d k) := by
  funext i
  by_cases h : i = k
  · subst h; rw [x_r_same]
  · rw [x_r_ne _ _ h]
theorem x_p_r (d : xd) (k j : Nat) (f : Nat → Int32) (v : Int32) : x_p (x_r d k f) k j v = x_r d k (upd f j v) := by
  funext i
  by_cases h : i = k
  · subst h; simp [x_p, x_r]
  · simp [x_p, x_r, h]
theorem x_p_r2 {d : xd} {k j : Nat} {f g : Nat → Int32} {v : Int32} (h : upd f j v = g) : x_p (x_r d k f) k j v = x_r d k g := by rw [x_p_r, h]
/-- two States' cells are apart -/
theorem x_isS_off {o o2 : Nat} (h : x_isS o) (h2 : x_isS o2) (hne : o ≠ o2) : o + 14 ≤ o2 ∨ o2 + 14 ≤ o := by
  rcases h with rfl | rfl | rfl | ⟨i, hi, rfl⟩ <;> rcases h2 with rfl | rfl | rfl | ⟨j, hj, rfl⟩ <;> omega
def f_rdy (d : xd) (o i : Nat) : Bool := decide (¬ x_bz (d (o + 5) i) = 0 ∧ d (o + 4) i ≤ d (o + 6) i ∧ 1 ≤ d (o + 7) i)
def f_nf (d : xd) (o i : Nat) : Int32 := if d (o + 4) i < 1 then 0 else if d (o + 7) i < d (o + 6) i / d (o + 4) i then d (o + 7) i else d (o + 6) i / d (o + 4) i
def f_glow (d : xd) (o : Nat) (x : Int32) : Nat → Int32
  | 0 => 0
  | i + 1 => if d (o + 2) i = x ∧ f_rdy d o i = true then f_glow d o x i + d (o + 4) i else f_glow d o x i
def f_votes (d : xd) (o : Nat) (x : Int32) : Nat → Int32
  | 0 => 0
  | i + 1 => if d (o + 4) i ≤ x then f_votes d o x i + d (o + 3) i else f_votes d o x i
/-- the brightness, capped at the first i lamps -/
def f_cap (f : Nat → Int32) (x : Int32) : Nat → Nat → Int32
  | 0 => f
  | i + 1 => upd (f_cap f x i) i (if x < f_cap f x i i then x else f_cap f x i i)
theorem x_nn1 {i q b w : Nat} (h : i ≤ min (q / b) w) (h2 : w ≤ i) : i = min (q / b) w := by omega
theorem x_nn2 {i q b w : Nat} (hb : 0 < b) (h : i ≤ min (q / b) w) (h2 : q - i * b < b) : i = min (q / b) w := by
  have h3 : i ≤ q / b := Nat.le_trans h (Nat.min_le_left _ _)
  have h4 : i * b ≤ q := (Nat.le_div_iff_mul_le hb).mp h3
  have h5 : q / b < i + 1 := by
    rw [Nat.div_lt_iff_lt_mul hb, Nat.add_mul]
    omega
  omega
theorem x_nn3 {i q b w : Nat} (hb : 0 < b) (hi : i * b ≤ q) (h : i < w) (h2 : ¬ q - i * b < b) : i < min (q / b) w := by
  have h3 : i + 1 ≤ q / b := by
    rw [Nat.le_div_iff_mul_le hb, Nat.add_mul]
    omega
  omega
theorem x_nn4 {i q b w : Nat} (hb : 0 < b) (h : i ≤ min (q / b) w) : i * b ≤ q := (Nat.le_div_iff_mul_le hb).mp (Nat.le_trans h (Nat.min_le_left _ _))

set_option maxHeartbeats 4000000 in
set_option maxRecDepth 100000 in
theorem c_X5_has (l : Launch) (G : xG) (d : xd) (o : Nat) (ho : x_isS o) (x : Int32) : x_M G l yX5_has wsX5_has 1 0 0 [.ref (x_b G + (o + 1)), .int x] d (some (.int (x_bi (0 ≤ x ∧ x < d (o + 1) 0)))) d := by
  have iX5 : ∀ w ∈ u_ws RX5 TX5 8, w ∈ wsX5_has := by decide +kernel
  refine x_start (cc := cX5_has) (maxL := 2) (ret := (some .boolean)) (own := RX5) (by decide) rfl rfl (Nat.le_of_ble_eq_true rfl) (lst := [(0, .ref (x_b G + (o + 1))), (1, .int x)]) rfl ?_
  intro p e s m args below meth c C hr hlocks
  refine a_iload_n C dX5_has_0 1 rfl ?_
  refine a_if_lt C dX5_has_1 (tgt := 16) (by decide) (fun h1 => ?_) (fun h1 => ?_)
  · skip
    refine a_iconst C dX5_has_16 (v := 0) (by decide) ?_
    exact a_zret C hlocks hr rfl dX5_has_17 (x_bi_f (by first | exact fun h => absurd h.1 (Int32.not_le.mpr h1) | exact fun h => absurd h.2 (Int32.not_lt.mpr h9))).symm rfl
  · skip
    refine a_iload_n C dX5_has_4 1 rfl ?_
    refine a_aload_n C dX5_has_5 0 rfl ?_
    refine a_getI C (k := (o + 1)) iX5 (x_sS1 ho) rfl (j := 0) rfl (by decide) (by decide +kernel) dX5_has_6 ?_
    refine a_icmp_ge C dX5_has_9 (tgt := 16) (by decide) (fun h9 => ?_) (fun h9 => ?_)
    · skip
      refine a_iconst C dX5_has_16 (v := 0) (by decide) ?_
      exact a_zret C hlocks hr rfl dX5_has_17 (x_bi_f (by first | exact fun h => absurd h.1 (Int32.not_le.mpr h1) | exact fun h => absurd h.2 (Int32.not_lt.mpr h9))).symm rfl
    · skip
      refine a_iconst C dX5_has_12 (v := 1) (by decide) ?_
      refine a_goto C dX5_has_13 (tgt := 17) (by decide) ?_
      exact a_zret C hlocks hr rfl dX5_has_17 (x_bi_t ⟨Int32.not_lt.mp h1, Int32.not_le.mp h9⟩).symm rfl

def f_app (d : xd) (o n : Nat) (a b : Int32) : xd := x_p (x_p (x_p (x_p (x_p (x_p (x_p (x_p d (o + 2) n a) (o + 3) n b) (o + 4) n 1) (o + 5) n 1) (o + 6) n 0) (o + 7) n 0) (o + 8) n 0) (o + 1) 0 (nI (n + 1))
set_option maxHeartbeats 4000000 in
set_option maxRecDepth 100000 in
theorem c_X5_append (l : Launch) (G : xG) (d : xd) (o n : Nat) (ho : x_isS o) (hn : d (o + 1) 0 = nI n) (h7 : n < 8) (a b : Int32) : x_M G l yX5_append wsX5_append 1 0 0 [.ref (x_b G + (o + 1)), .int a, .int b] d (some (.int (nI n))) (f_app d o n a b) := by
  have iX5 : ∀ w ∈ u_ws RX5 TX5 8, w ∈ wsX5_append := by decide +kernel
  refine x_start (cc := cX5_append) (maxL := 4) (ret := (some .int)) (own := RX5) (by decide) rfl rfl (Nat.le_of_ble_eq_true rfl) (lst := [(0, .ref (x_b G + (o + 1))), (1, .int a), (2, .int b)]) rfl ?_
  intro p e s m args below meth c C hr hlocks
  refine a_aload_n C dX5_append_0 0 rfl ?_
  refine a_getI C (k := (o + 1)) iX5 (x_sS1 ho) rfl (j := 0) rfl (by decide) (by decide +kernel) dX5_append_1 ?_
  refine a_top (y := (nI n)) hn ?_
  refine a_istore_n C dX5_append_4 (by decide) (lst2 := [(3, .int (nI n)), (0, .ref (x_b G + (o + 1))), (1, .int a), (2, .int b)]) rfl ?_
  refine a_aload_n C dX5_append_5 1 rfl ?_
  refine a_getR C (k := (o + 1)) iX5 (x_sS1 ho) rfl (j := 1) rfl (by decide) (by decide +kernel) dX5_append_6 ?_
  refine a_iload_n C dX5_append_9 0 rfl ?_
  refine a_iload_n C dX5_append_10 2 rfl ?_
  refine a_iastN C (k := (o + 2)) (x_sS2 ho) (i := n) rfl (by omega) (by first | decide | omega) dX5_append_11 ?_
  refine a_aload_n C dX5_append_12 1 rfl ?_
  refine a_getR C (k := (o + 1)) iX5 (x_sS1 ho) rfl (j := 2) rfl (by decide) (by decide +kernel) dX5_append_13 ?_
  refine a_iload_n C dX5_append_16 0 rfl ?_
  refine a_iload_n C dX5_append_17 3 rfl ?_
  refine a_iastN C (k := (o + 3)) (x_sS3 ho) (i := n) rfl (by omega) (by first | decide | omega) dX5_append_18 ?_
  refine a_aload_n C dX5_append_19 1 rfl ?_
  refine a_getR C (k := (o + 1)) iX5 (x_sS1 ho) rfl (j := 3) rfl (by decide) (by decide +kernel) dX5_append_20 ?_
  refine a_iload_n C dX5_append_23 0 rfl ?_
  refine a_iconst C dX5_append_24 (v := 1) (by decide) ?_
  refine a_iastN C (k := (o + 4)) (x_sS4 ho) (i := n) rfl (by omega) (by first | decide | omega) dX5_append_25 ?_
  refine a_aload_n C dX5_append_26 1 rfl ?_
  refine a_getR C (k := (o + 1)) iX5 (x_sS1 ho) rfl (j := 4) rfl (by decide) (by decide +kernel) dX5_append_27 ?_
  refine a_iload_n C dX5_append_30 0 rfl ?_
  refine a_iconst C dX5_append_31 (v := 1) (by decide) ?_
  refine a_zastN C (k := (o + 5)) (x_sS5 ho) (i := n) rfl (by omega) (by first | decide | omega) (by decide) dX5_append_32 ?_
  refine a_aload_n C dX5_append_33 1 rfl ?_
  refine a_getR C (k := (o + 1)) iX5 (x_sS1 ho) rfl (j := 5) rfl (by decide) (by decide +kernel) dX5_append_34 ?_
  refine a_iload_n C dX5_append_37 0 rfl ?_
  refine a_iconst C dX5_append_38 (v := 0) (by decide) ?_
  refine a_iastN C (k := (o + 6)) (x_sS6 ho) (i := n) rfl (by omega) (by first | decide | omega) dX5_append_39 ?_
  refine a_aload_n C dX5_append_40 1 rfl ?_
  refine a_getR C (k := (o + 1)) iX5 (x_sS1 ho) rfl (j := 6) rfl (by decide) (by decide +kernel) dX5_append_41 ?_
  refine a_iload_n C dX5_append_44 0 rfl ?_
  refine a_iconst C dX5_append_45 (v := 0) (by decide) ?_
  refine a_iastN C (k := (o + 7)) (x_sS7 ho) (i := n) rfl (by omega) (by first | decide | omega) dX5_append_46 ?_
  refine a_aload_n C dX5_append_47 1 rfl ?_
  refine a_getR C (k := (o + 1)) iX5 (x_sS1 ho) rfl (j := 7) rfl (by decide) (by decide +kernel) dX5_append_48 ?_
  refine a_iload_n C dX5_append_51 0 rfl ?_
  refine a_iconst C dX5_append_52 (v := 0) (by decide) ?_
  refine a_iastN C (k := (o + 8)) (x_sS8 ho) (i := n) rfl (by omega) (by first | decide | omega) dX5_append_53 ?_
  refine a_aload_n C dX5_append_54 1 rfl ?_
  refine a_dup C dX5_append_55 rfl ?_
  refine a_getI C (k := (o + 1)) iX5 (x_sS1 ho) rfl (j := 0) rfl (by decide) (by decide +kernel) dX5_append_56 ?_
  refine a_top (y := (d (o + 1) 0)) (by rw [x_p_ne (by omega), x_p_ne (by omega), x_p_ne (by omega), x_p_ne (by omega), x_p_ne (by omega), x_p_ne (by omega), x_p_ne (by omega)]) ?_
  refine a_top (y := (nI n)) hn ?_
  refine a_iconst C dX5_append_59 (v := 1) (by decide) ?_
  refine a_iadd C dX5_append_60 ?_
  refine a_top (y := (nI (n + 1))) (nI_1 n) ?_
  refine a_putI C (k := (o + 1)) iX5 tyX5_ok nmX5 (x_sS1 ho) rfl (j := 0) rfl (by decide) (by decide +kernel) rfl (ty := .int) (by decide +kernel) rfl rfl dX5_append_61 ?_
  refine a_iload_n C dX5_append_64 0 rfl ?_
  exact a_iret C hlocks hr dX5_append_65 rfl rfl

def f_gap (d : xd) (o n i : Nat) : xd := x_p (x_r (x_r (x_r (x_r (x_r (x_r (x_r d (o + 2) (va_cpy (d (o + 2)) (d (o + 2)) (i + 1) i (n - i - 1))) (o + 3) (va_cpy (d (o + 3)) (d (o + 3)) (i + 1) i (n - i - 1))) (o + 4) (va_cpy (d (o + 4)) (d (o + 4)) (i + 1) i (n - i - 1))) (o + 5) (va_cpy (d (o + 5)) (d (o + 5)) (i + 1) i (n - i - 1))) (o + 6) (va_cpy (d (o + 6)) (d (o + 6)) (i + 1) i (n - i - 1))) (o + 7) (va_cpy (d (o + 7)) (d (o + 7)) (i + 1) i (n - i - 1))) (o + 8) (va_cpy (d (o + 8)) (d (o + 8)) (i + 1) i (n - i - 1))) (o + 1) 0 (nI (n - 1))
set_option maxHeartbeats 4000000 in
set_option maxRecDepth 100000 in
theorem c_X5_closeGap (l : Launch) (G : xG) (d : xd) (o n : Nat) (ho : x_isS o) (hn : d (o + 1) 0 = nI n) (h8 : n ≤ 8) (i : Nat) (hi : i < n) : x_M G l yX5_closeGap wsX5_closeGap 1 0 0 [.ref (x_b G + (o + 1)), .int (nI i)] d none (f_gap d o n i) := by
  have iX5 : ∀ w ∈ u_ws RX5 TX5 8, w ∈ wsX5_closeGap := by decide +kernel
  refine x_start (cc := cX5_closeGap) (maxL := 3) (ret := none) (own := RX5) (by decide) rfl rfl (Nat.le_of_ble_eq_true rfl) (lst := [(0, .ref (x_b G + (o + 1))), (1, .int (nI i))]) rfl ?_
  intro p e s m args below meth c C hr hlocks
  refine a_aload_n C dX5_closeGap_0 0 rfl ?_
  refine a_getI C (k := (o + 1)) iX5 (x_sS1 ho) rfl (j := 0) rfl (by decide) (by decide +kernel) dX5_closeGap_1 ?_
  refine a_top (y := (nI n)) hn ?_
  refine a_iload_n C dX5_closeGap_4 1 rfl ?_
  refine a_isub C dX5_closeGap_5 ?_
  refine a_top (y := (nI (n - i))) (pk_sub (by omega)) ?_
  refine a_iconst C dX5_closeGap_6 (v := 1) (by decide) ?_
  refine a_isub C dX5_closeGap_7 ?_
  refine a_top (y := (nI (n - i - 1))) (pk_sub (a := n - i) (b := 1) (by omega)) ?_
  refine a_istore_n C dX5_closeGap_8 (by decide) (lst2 := [(2, .int (nI (n - i - 1))), (0, .ref (x_b G + (o + 1))), (1, .int (nI i))]) rfl ?_
  refine a_aload_n C dX5_closeGap_9 1 rfl ?_
  refine a_getR C (k := (o + 1)) iX5 (x_sS1 ho) rfl (j := 1) rfl (by decide) (by decide +kernel) dX5_closeGap_10 ?_
  refine a_iload_n C dX5_closeGap_13 2 rfl ?_
  refine a_iconst C dX5_closeGap_14 (v := 1) (by decide) ?_
  refine a_iadd C dX5_closeGap_15 ?_
  refine a_top (y := (nI (i + 1))) (nI_1 i) ?_
  refine a_aload_n C dX5_closeGap_16 1 rfl ?_
  refine a_getR C (k := (o + 1)) iX5 (x_sS1 ho) rfl (j := 1) rfl (by decide) (by decide +kernel) dX5_closeGap_17 ?_
  refine a_iload_n C dX5_closeGap_20 2 rfl ?_
  refine a_iload_n C dX5_closeGap_21 0 rfl ?_
  refine a_copyiN C (k0 := (o + 2)) (k1 := (o + 2)) (by decide +kernel) (by decide +kernel) (by decide +kernel) (by decide +kernel) (x_sS2 ho) (x_sS2 ho) (sp := i + 1) (dp := i) (n := n - i - 1) rfl rfl rfl (by omega) (by omega) (by decide) (by decide) (f := d (o + 2)) (g := d (o + 2)) rfl rfl (Nat.le_of_ble_eq_true rfl) (Nat.le_of_ble_eq_true rfl) dX5_closeGap_22 ?_
  refine a_aload_n C dX5_closeGap_25 1 rfl ?_
  refine a_getR C (k := (o + 1)) iX5 (x_sS1 ho) rfl (j := 2) rfl (by decide) (by decide +kernel) dX5_closeGap_26 ?_
  refine a_iload_n C dX5_closeGap_29 2 rfl ?_
  refine a_iconst C dX5_closeGap_30 (v := 1) (by decide) ?_
  refine a_iadd C dX5_closeGap_31 ?_
  refine a_top (y := (nI (i + 1))) (nI_1 i) ?_
  refine a_aload_n C dX5_closeGap_32 1 rfl ?_
  refine a_getR C (k := (o + 1)) iX5 (x_sS1 ho) rfl (j := 2) rfl (by decide) (by decide +kernel) dX5_closeGap_33 ?_
  refine a_iload_n C dX5_closeGap_36 2 rfl ?_
  refine a_iload_n C dX5_closeGap_37 0 rfl ?_
  refine a_copyiN C (k0 := (o + 3)) (k1 := (o + 3)) (by decide +kernel) (by decide +kernel) (by decide +kernel) (by decide +kernel) (x_sS3 ho) (x_sS3 ho) (sp := i + 1) (dp := i) (n := n - i - 1) rfl rfl rfl (by omega) (by omega) (by decide) (by decide) (f := d (o + 3)) (g := d (o + 3)) (by rw [x_r_ne2 (by omega)]) (by rw [x_r_ne2 (by omega)]) (Nat.le_of_ble_eq_true rfl) (Nat.le_of_ble_eq_true rfl) dX5_closeGap_38 ?_
  refine a_aload_n C dX5_closeGap_41 1 rfl ?_
  refine a_getR C (k := (o + 1)) iX5 (x_sS1 ho) rfl (j := 3) rfl (by decide) (by decide +kernel) dX5_closeGap_42 ?_
  refine a_iload_n C dX5_closeGap_45 2 rfl ?_
  refine a_iconst C dX5_closeGap_46 (v := 1) (by decide) ?_
  refine a_iadd C dX5_closeGap_47 ?_
  refine a_top (y := (nI (i + 1))) (nI_1 i) ?_
  refine a_aload_n C dX5_closeGap_48 1 rfl ?_
  refine a_getR C (k := (o + 1)) iX5 (x_sS1 ho) rfl (j := 3) rfl (by decide) (by decide +kernel) dX5_closeGap_49 ?_
  refine a_iload_n C dX5_closeGap_52 2 rfl ?_
  refine a_iload_n C dX5_closeGap_53 0 rfl ?_
  refine a_copyiN C (k0 := (o + 4)) (k1 := (o + 4)) (by decide +kernel) (by decide +kernel) (by decide +kernel) (by decide +kernel) (x_sS4 ho) (x_sS4 ho) (sp := i + 1) (dp := i) (n := n - i - 1) rfl rfl rfl (by omega) (by omega) (by decide) (by decide) (f := d (o + 4)) (g := d (o + 4)) (by rw [x_r_ne2 (by omega), x_r_ne2 (by omega)]) (by rw [x_r_ne2 (by omega), x_r_ne2 (by omega)]) (Nat.le_of_ble_eq_true rfl) (Nat.le_of_ble_eq_true rfl) dX5_closeGap_54 ?_
  refine a_aload_n C dX5_closeGap_57 1 rfl ?_
  refine a_getR C (k := (o + 1)) iX5 (x_sS1 ho) rfl (j := 4) rfl (by decide) (by decide +kernel) dX5_closeGap_58 ?_
  refine a_iload_n C dX5_closeGap_61 2 rfl ?_
  refine a_iconst C dX5_closeGap_62 (v := 1) (by decide) ?_
  refine a_iadd C dX5_closeGap_63 ?_
  refine a_top (y := (nI (i + 1))) (nI_1 i) ?_
  refine a_aload_n C dX5_closeGap_64 1 rfl ?_
  refine a_getR C (k := (o + 1)) iX5 (x_sS1 ho) rfl (j := 4) rfl (by decide) (by decide +kernel) dX5_closeGap_65 ?_
  refine a_iload_n C dX5_closeGap_68 2 rfl ?_
  refine a_iload_n C dX5_closeGap_69 0 rfl ?_
  refine a_copyzN C (k0 := (o + 5)) (k1 := (o + 5)) (by decide +kernel) (by decide +kernel) (by decide +kernel) (by decide +kernel) (x_sS5 ho) (x_sS5 ho) (sp := i + 1) (dp := i) (n := n - i - 1) rfl rfl rfl (by omega) (by omega) (by decide) (by decide) (f := d (o + 5)) (g := d (o + 5)) (by rw [x_r_ne2 (by omega), x_r_ne2 (by omega), x_r_ne2 (by omega)]) (by rw [x_r_ne2 (by omega), x_r_ne2 (by omega), x_r_ne2 (by omega)]) (Nat.le_of_ble_eq_true rfl) (Nat.le_of_ble_eq_true rfl) dX5_closeGap_70 ?_
  refine a_aload_n C dX5_closeGap_73 1 rfl ?_
  refine a_getR C (k := (o + 1)) iX5 (x_sS1 ho) rfl (j := 5) rfl (by decide) (by decide +kernel) dX5_closeGap_74 ?_
  refine a_iload_n C dX5_closeGap_77 2 rfl ?_
  refine a_iconst C dX5_closeGap_78 (v := 1) (by decide) ?_
  refine a_iadd C dX5_closeGap_79 ?_
  refine a_top (y := (nI (i + 1))) (nI_1 i) ?_
  refine a_aload_n C dX5_closeGap_80 1 rfl ?_
  refine a_getR C (k := (o + 1)) iX5 (x_sS1 ho) rfl (j := 5) rfl (by decide) (by decide +kernel) dX5_closeGap_81 ?_
  refine a_iload_n C dX5_closeGap_84 2 rfl ?_
  refine a_iload_n C dX5_closeGap_85 0 rfl ?_
  refine a_copyiN C (k0 := (o + 6)) (k1 := (o + 6)) (by decide +kernel) (by decide +kernel) (by decide +kernel) (by decide +kernel) (x_sS6 ho) (x_sS6 ho) (sp := i + 1) (dp := i) (n := n - i - 1) rfl rfl rfl (by omega) (by omega) (by decide) (by decide) (f := d (o + 6)) (g := d (o + 6)) (by rw [x_r_ne2 (by omega), x_r_ne2 (by omega), x_r_ne2 (by omega), x_r_ne2 (by omega)]) (by rw [x_r_ne2 (by omega), x_r_ne2 (by omega), x_r_ne2 (by omega), x_r_ne2 (by omega)]) (Nat.le_of_ble_eq_true rfl) (Nat.le_of_ble_eq_true rfl) dX5_closeGap_86 ?_
  refine a_aload_n C dX5_closeGap_89 1 rfl ?_
  refine a_getR C (k := (o + 1)) iX5 (x_sS1 ho) rfl (j := 6) rfl (by decide) (by decide +kernel) dX5_closeGap_90 ?_
  refine a_iload_n C dX5_closeGap_93 2 rfl ?_
  refine a_iconst C dX5_closeGap_94 (v := 1) (by decide) ?_
  refine a_iadd C dX5_closeGap_95 ?_
  refine a_top (y := (nI (i + 1))) (nI_1 i) ?_
  refine a_aload_n C dX5_closeGap_96 1 rfl ?_
  refine a_getR C (k := (o + 1)) iX5 (x_sS1 ho) rfl (j := 6) rfl (by decide) (by decide +kernel) dX5_closeGap_97 ?_
  refine a_iload_n C dX5_closeGap_100 2 rfl ?_
  refine a_iload_n C dX5_closeGap_101 0 rfl ?_
  refine a_copyiN C (k0 := (o + 7)) (k1 := (o + 7)) (by decide +kernel) (by decide +kernel) (by decide +kernel) (by decide +kernel) (x_sS7 ho) (x_sS7 ho) (sp := i + 1) (dp := i) (n := n - i - 1) rfl rfl rfl (by omega) (by omega) (by decide) (by decide) (f := d (o + 7)) (g := d (o + 7)) (by rw [x_r_ne2 (by omega), x_r_ne2 (by omega), x_r_ne2 (by omega), x_r_ne2 (by omega), x_r_ne2 (by omega)]) (by rw [x_r_ne2 (by omega), x_r_ne2 (by omega), x_r_ne2 (by omega), x_r_ne2 (by omega), x_r_ne2 (by omega)]) (Nat.le_of_ble_eq_true rfl) (Nat.le_of_ble_eq_true rfl) dX5_closeGap_102 ?_
  refine a_aload_n C dX5_closeGap_105 1 rfl ?_
  refine a_getR C (k := (o + 1)) iX5 (x_sS1 ho) rfl (j := 7) rfl (by decide) (by decide +kernel) dX5_closeGap_106 ?_
  refine a_iload_n C dX5_closeGap_109 2 rfl ?_
  refine a_iconst C dX5_closeGap_110 (v := 1) (by decide) ?_
  refine a_iadd C dX5_closeGap_111 ?_
  refine a_top (y := (nI (i + 1))) (nI_1 i) ?_
  refine a_aload_n C dX5_closeGap_112 1 rfl ?_
  refine a_getR C (k := (o + 1)) iX5 (x_sS1 ho) rfl (j := 7) rfl (by decide) (by decide +kernel) dX5_closeGap_113 ?_
  refine a_iload_n C dX5_closeGap_116 2 rfl ?_
  refine a_iload_n C dX5_closeGap_117 0 rfl ?_
  refine a_copyiN C (k0 := (o + 8)) (k1 := (o + 8)) (by decide +kernel) (by decide +kernel) (by decide +kernel) (by decide +kernel) (x_sS8 ho) (x_sS8 ho) (sp := i + 1) (dp := i) (n := n - i - 1) rfl rfl rfl (by omega) (by omega) (by decide) (by decide) (f := d (o + 8)) (g := d (o + 8)) (by rw [x_r_ne2 (by omega), x_r_ne2 (by omega), x_r_ne2 (by omega), x_r_ne2 (by omega), x_r_ne2 (by omega), x_r_ne2 (by omega)]) (by rw [x_r_ne2 (by omega), x_r_ne2 (by omega), x_r_ne2 (by omega), x_r_ne2 (by omega), x_r_ne2 (by omega), x_r_ne2 (by omega)]) (Nat.le_of_ble_eq_true rfl) (Nat.le_of_ble_eq_true rfl) dX5_closeGap_118 ?_
  refine a_aload_n C dX5_closeGap_121 1 rfl ?_
  refine a_dup C dX5_closeGap_122 rfl ?_
  refine a_getI C (k := (o + 1)) iX5 (x_sS1 ho) rfl (j := 0) rfl (by decide) (by decide +kernel) dX5_closeGap_123 ?_
  refine a_top (y := (d (o + 1) 0)) (by rw [x_r_ne2 (by omega), x_r_ne2 (by omega), x_r_ne2 (by omega), x_r_ne2 (by omega), x_r_ne2 (by omega), x_r_ne2 (by omega), x_r_ne2 (by omega)]) ?_
  refine a_top (y := (nI n)) hn ?_
  refine a_iconst C dX5_closeGap_126 (v := 1) (by decide) ?_
  refine a_isub C dX5_closeGap_127 ?_
  refine a_top (y := (nI (n - 1))) (pk_sub (a := n) (b := 1) (by omega)) ?_
  refine a_putI C (k := (o + 1)) iX5 tyX5_ok nmX5 (x_sS1 ho) rfl (j := 0) rfl (by decide) (by decide +kernel) rfl (ty := .int) (by decide +kernel) rfl rfl dX5_closeGap_128 ?_
  exact a_vret C hlocks hr dX5_closeGap_131 rfl

def f_cpl (d : xd) (o o2 : Nat) : xd := x_r (x_r (x_r (x_r (x_r (x_r (x_r (x_p d (o + 1) 0 (d (o2 + 1) 0)) (o + 2) (va_cpy (d (o2 + 2)) (d (o + 2)) 0 0 8)) (o + 3) (va_cpy (d (o2 + 3)) (d (o + 3)) 0 0 8)) (o + 4) (va_cpy (d (o2 + 4)) (d (o + 4)) 0 0 8)) (o + 5) (va_cpy (d (o2 + 5)) (d (o + 5)) 0 0 8)) (o + 6) (va_cpy (d (o2 + 6)) (d (o + 6)) 0 0 8)) (o + 7) (va_cpy (d (o2 + 7)) (d (o + 7)) 0 0 8)) (o + 8) (va_cpy (d (o2 + 8)) (d (o + 8)) 0 0 8)
set_option maxHeartbeats 4000000 in
set_option maxRecDepth 100000 in
theorem c_X5_copyFrom (l : Launch) (G : xG) (d : xd) (o o2 : Nat) (ho : x_isS o) (ho2 : x_isS o2) (hne : o ≠ o2) : x_M G l yX5_copyFrom wsX5_copyFrom 1 0 0 [.ref (x_b G + (o + 1)), .ref (x_b G + (o2 + 1))] d none (f_cpl d o o2) := by
  have hoo := x_isS_off ho ho2 hne
  have iX5 : ∀ w ∈ u_ws RX5 TX5 8, w ∈ wsX5_copyFrom := by decide +kernel
  refine x_start (cc := cX5_copyFrom) (maxL := 2) (ret := none) (own := RX5) (by decide) rfl rfl (Nat.le_of_ble_eq_true rfl) (lst := [(0, .ref (x_b G + (o + 1))), (1, .ref (x_b G + (o2 + 1)))]) rfl ?_
  intro p e s m args below meth c C hr hlocks
  refine a_aload_n C dX5_copyFrom_0 0 rfl ?_
  refine a_aload_n C dX5_copyFrom_1 1 rfl ?_
  refine a_getI C (k := (o2 + 1)) iX5 (x_sS1 ho2) rfl (j := 0) rfl (by decide) (by decide +kernel) dX5_copyFrom_2 ?_
  refine a_putI C (k := (o + 1)) iX5 tyX5_ok nmX5 (x_sS1 ho) rfl (j := 0) rfl (by decide) (by decide +kernel) rfl (ty := .int) (by decide +kernel) rfl rfl dX5_copyFrom_5 ?_
  refine a_aload_n C dX5_copyFrom_8 1 rfl ?_
  refine a_getR C (k := (o2 + 1)) iX5 (x_sS1 ho2) rfl (j := 1) rfl (by decide) (by decide +kernel) dX5_copyFrom_9 ?_
  refine a_iconst C dX5_copyFrom_12 (v := 0) (by decide) ?_
  refine a_aload_n C dX5_copyFrom_13 0 rfl ?_
  refine a_getR C (k := (o + 1)) iX5 (x_sS1 ho) rfl (j := 1) rfl (by decide) (by decide +kernel) dX5_copyFrom_14 ?_
  refine a_iconst C dX5_copyFrom_17 (v := 0) (by decide) ?_
  refine a_bipush C dX5_copyFrom_18 (v := 8) (by decide) ?_
  refine a_copyiN C (k0 := (o2 + 2)) (k1 := (o + 2)) (by decide +kernel) (by decide +kernel) (by decide +kernel) (by decide +kernel) (x_sS2 ho2) (x_sS2 ho) (sp := 0) (dp := 0) (n := 8) rfl rfl rfl (by decide) (by decide) (by decide) (by decide) (f := d (o2 + 2)) (g := d (o + 2)) (by rw [x_p_ne (by omega)]) (by rw [x_p_ne (by omega)]) (Nat.le_of_ble_eq_true rfl) (Nat.le_of_ble_eq_true rfl) dX5_copyFrom_20 ?_
  refine a_aload_n C dX5_copyFrom_23 1 rfl ?_
  refine a_getR C (k := (o2 + 1)) iX5 (x_sS1 ho2) rfl (j := 2) rfl (by decide) (by decide +kernel) dX5_copyFrom_24 ?_
  refine a_iconst C dX5_copyFrom_27 (v := 0) (by decide) ?_
  refine a_aload_n C dX5_copyFrom_28 0 rfl ?_
  refine a_getR C (k := (o + 1)) iX5 (x_sS1 ho) rfl (j := 2) rfl (by decide) (by decide +kernel) dX5_copyFrom_29 ?_
  refine a_iconst C dX5_copyFrom_32 (v := 0) (by decide) ?_
  refine a_bipush C dX5_copyFrom_33 (v := 8) (by decide) ?_
  refine a_copyiN C (k0 := (o2 + 3)) (k1 := (o + 3)) (by decide +kernel) (by decide +kernel) (by decide +kernel) (by decide +kernel) (x_sS3 ho2) (x_sS3 ho) (sp := 0) (dp := 0) (n := 8) rfl rfl rfl (by decide) (by decide) (by decide) (by decide) (f := d (o2 + 3)) (g := d (o + 3)) (by rw [x_r_ne2 (by omega), x_p_ne (by omega)]) (by rw [x_r_ne2 (by omega), x_p_ne (by omega)]) (Nat.le_of_ble_eq_true rfl) (Nat.le_of_ble_eq_true rfl) dX5_copyFrom_35 ?_
  refine a_aload_n C dX5_copyFrom_38 1 rfl ?_
  refine a_getR C (k := (o2 + 1)) iX5 (x_sS1 ho2) rfl (j := 3) rfl (by decide) (by decide +kernel) dX5_copyFrom_39 ?_
  refine a_iconst C dX5_copyFrom_42 (v := 0) (by decide) ?_
  refine a_aload_n C dX5_copyFrom_43 0 rfl ?_
  refine a_getR C (k := (o + 1)) iX5 (x_sS1 ho) rfl (j := 3) rfl (by decide) (by decide +kernel) dX5_copyFrom_44 ?_
  refine a_iconst C dX5_copyFrom_47 (v := 0) (by decide) ?_
  refine a_bipush C dX5_copyFrom_48 (v := 8) (by decide) ?_
  refine a_copyiN C (k0 := (o2 + 4)) (k1 := (o + 4)) (by decide +kernel) (by decide +kernel) (by decide +kernel) (by decide +kernel) (x_sS4 ho2) (x_sS4 ho) (sp := 0) (dp := 0) (n := 8) rfl rfl rfl (by decide) (by decide) (by decide) (by decide) (f := d (o2 + 4)) (g := d (o + 4)) (by rw [x_r_ne2 (by omega), x_r_ne2 (by omega), x_p_ne (by omega)]) (by rw [x_r_ne2 (by omega), x_r_ne2 (by omega), x_p_ne (by omega)]) (Nat.le_of_ble_eq_true rfl) (Nat.le_of_ble_eq_true rfl) dX5_copyFrom_50 ?_
  refine a_aload_n C dX5_copyFrom_53 1 rfl ?_
  refine a_getR C (k := (o2 + 1)) iX5 (x_sS1 ho2) rfl (j := 4) rfl (by decide) (by decide +kernel) dX5_copyFrom_54 ?_
  refine a_iconst C dX5_copyFrom_57 (v := 0) (by decide) ?_
  refine a_aload_n C dX5_copyFrom_58 0 rfl ?_
  refine a_getR C (k := (o + 1)) iX5 (x_sS1 ho) rfl (j := 4) rfl (by decide) (by decide +kernel) dX5_copyFrom_59 ?_
  refine a_iconst C dX5_copyFrom_62 (v := 0) (by decide) ?_
  refine a_bipush C dX5_copyFrom_63 (v := 8) (by decide) ?_
  refine a_copyzN C (k0 := (o2 + 5)) (k1 := (o + 5)) (by decide +kernel) (by decide +kernel) (by decide +kernel) (by decide +kernel) (x_sS5 ho2) (x_sS5 ho) (sp := 0) (dp := 0) (n := 8) rfl rfl rfl (by decide) (by decide) (by decide) (by decide) (f := d (o2 + 5)) (g := d (o + 5)) (by rw [x_r_ne2 (by omega), x_r_ne2 (by omega), x_r_ne2 (by omega), x_p_ne (by omega)]) (by rw [x_r_ne2 (by omega), x_r_ne2 (by omega), x_r_ne2 (by omega), x_p_ne (by omega)]) (Nat.le_of_ble_eq_true rfl) (Nat.le_of_ble_eq_true rfl) dX5_copyFrom_65 ?_
  refine a_aload_n C dX5_copyFrom_68 1 rfl ?_
  refine a_getR C (k := (o2 + 1)) iX5 (x_sS1 ho2) rfl (j := 5) rfl (by decide) (by decide +kernel) dX5_copyFrom_69 ?_
  refine a_iconst C dX5_copyFrom_72 (v := 0) (by decide) ?_
  refine a_aload_n C dX5_copyFrom_73 0 rfl ?_
  refine a_getR C (k := (o + 1)) iX5 (x_sS1 ho) rfl (j := 5) rfl (by decide) (by decide +kernel) dX5_copyFrom_74 ?_
  refine a_iconst C dX5_copyFrom_77 (v := 0) (by decide) ?_
  refine a_bipush C dX5_copyFrom_78 (v := 8) (by decide) ?_
  refine a_copyiN C (k0 := (o2 + 6)) (k1 := (o + 6)) (by decide +kernel) (by decide +kernel) (by decide +kernel) (by decide +kernel) (x_sS6 ho2) (x_sS6 ho) (sp := 0) (dp := 0) (n := 8) rfl rfl rfl (by decide) (by decide) (by decide) (by decide) (f := d (o2 + 6)) (g := d (o + 6)) (by rw [x_r_ne2 (by omega), x_r_ne2 (by omega), x_r_ne2 (by omega), x_r_ne2 (by omega), x_p_ne (by omega)]) (by rw [x_r_ne2 (by omega), x_r_ne2 (by omega), x_r_ne2 (by omega), x_r_ne2 (by omega), x_p_ne (by omega)]) (Nat.le_of_ble_eq_true rfl) (Nat.le_of_ble_eq_true rfl) dX5_copyFrom_80 ?_
  refine a_aload_n C dX5_copyFrom_83 1 rfl ?_
  refine a_getR C (k := (o2 + 1)) iX5 (x_sS1 ho2) rfl (j := 6) rfl (by decide) (by decide +kernel) dX5_copyFrom_84 ?_
  refine a_iconst C dX5_copyFrom_87 (v := 0) (by decide) ?_
  refine a_aload_n C dX5_copyFrom_88 0 rfl ?_
  refine a_getR C (k := (o + 1)) iX5 (x_sS1 ho) rfl (j := 6) rfl (by decide) (by decide +kernel) dX5_copyFrom_89 ?_
  refine a_iconst C dX5_copyFrom_92 (v := 0) (by decide) ?_
  refine a_bipush C dX5_copyFrom_93 (v := 8) (by decide) ?_
  refine a_copyiN C (k0 := (o2 + 7)) (k1 := (o + 7)) (by decide +kernel) (by decide +kernel) (by decide +kernel) (by decide +kernel) (x_sS7 ho2) (x_sS7 ho) (sp := 0) (dp := 0) (n := 8) rfl rfl rfl (by decide) (by decide) (by decide) (by decide) (f := d (o2 + 7)) (g := d (o + 7)) (by rw [x_r_ne2 (by omega), x_r_ne2 (by omega), x_r_ne2 (by omega), x_r_ne2 (by omega), x_r_ne2 (by omega), x_p_ne (by omega)]) (by rw [x_r_ne2 (by omega), x_r_ne2 (by omega), x_r_ne2 (by omega), x_r_ne2 (by omega), x_r_ne2 (by omega), x_p_ne (by omega)]) (Nat.le_of_ble_eq_true rfl) (Nat.le_of_ble_eq_true rfl) dX5_copyFrom_95 ?_
  refine a_aload_n C dX5_copyFrom_98 1 rfl ?_
  refine a_getR C (k := (o2 + 1)) iX5 (x_sS1 ho2) rfl (j := 7) rfl (by decide) (by decide +kernel) dX5_copyFrom_99 ?_
  refine a_iconst C dX5_copyFrom_102 (v := 0) (by decide) ?_
  refine a_aload_n C dX5_copyFrom_103 0 rfl ?_
  refine a_getR C (k := (o + 1)) iX5 (x_sS1 ho) rfl (j := 7) rfl (by decide) (by decide +kernel) dX5_copyFrom_104 ?_
  refine a_iconst C dX5_copyFrom_107 (v := 0) (by decide) ?_
  refine a_bipush C dX5_copyFrom_108 (v := 8) (by decide) ?_
  refine a_copyiN C (k0 := (o2 + 8)) (k1 := (o + 8)) (by decide +kernel) (by decide +kernel) (by decide +kernel) (by decide +kernel) (x_sS8 ho2) (x_sS8 ho) (sp := 0) (dp := 0) (n := 8) rfl rfl rfl (by decide) (by decide) (by decide) (by decide) (f := d (o2 + 8)) (g := d (o + 8)) (by rw [x_r_ne2 (by omega), x_r_ne2 (by omega), x_r_ne2 (by omega), x_r_ne2 (by omega), x_r_ne2 (by omega), x_r_ne2 (by omega), x_p_ne (by omega)]) (by rw [x_r_ne2 (by omega), x_r_ne2 (by omega), x_r_ne2 (by omega), x_r_ne2 (by omega), x_r_ne2 (by omega), x_r_ne2 (by omega), x_p_ne (by omega)]) (Nat.le_of_ble_eq_true rfl) (Nat.le_of_ble_eq_true rfl) dX5_copyFrom_110 ?_
  exact a_vret C hlocks hr dX5_copyFrom_113 rfl

set_option maxHeartbeats 4000000 in
set_option maxRecDepth 100000 in
theorem c_X5_sumOf (l : Launch) (G : xG) (d : xd) (o n : Nat) (ho : x_isS o) (hn : d (o + 1) 0 = nI n) (h8 : n ≤ 8) (k : Nat) (hk : x_sh[k]? = some (.inr (0, 8))) : x_M G l yX5_sumOf wsX5_sumOf 1 0 0 [.ref (x_b G + (o + 1)), .ref (x_b G + k)] d (some (.int (f_sum (d k) n))) d := by
  have iX5 : ∀ w ∈ u_ws RX5 TX5 8, w ∈ wsX5_sumOf := by decide +kernel
  refine x_start (cc := cX5_sumOf) (maxL := 4) (ret := (some .int)) (own := RX5) (by decide) rfl rfl (Nat.le_of_ble_eq_true rfl) (lst := [(0, .ref (x_b G + (o + 1))), (1, .ref (x_b G + k))]) rfl ?_
  intro p e s m args below meth c C hr hlocks
  refine a_iconst C dX5_sumOf_0 (v := 0) (by decide) ?_
  refine a_istore_n C dX5_sumOf_1 (by decide) (lst2 := [(2, .int 0), (0, .ref (x_b G + (o + 1))), (1, .ref (x_b G + k))]) rfl ?_
  refine a_iconst C dX5_sumOf_2 (v := 0) (by decide) ?_
  refine a_istore_n C dX5_sumOf_3 (by decide) (lst2 := [(3, .int 0), (2, .int 0), (0, .ref (x_b G + (o + 1))), (1, .ref (x_b G + k))]) rfl ?_
  have L4 : ∀ (j i : Nat), i ≤ n → n < i + j → Ab G p l e (x_rm 1 0 0) s m args below meth c 4 0 0 (MQ below (x_Q G (some (.int (f_sum (d k) n))) d) args s 0 0 (x_A G)) 4 [(3, .int (nI i)), (2, .int (f_sum (d k) i)), (0, .ref (x_b G + (o + 1))), (1, .ref (x_b G + k))] [] d := by
    intro j
    induction j with
    | zero => intro i h1 h2; exact absurd h2 (by omega)
    | succ j ih =>
      intro i hi hj 
      refine a_iload_n C dX5_sumOf_4 0 rfl ?_
      refine a_aload_n C dX5_sumOf_5 2 rfl ?_
      refine a_getI C (k := (o + 1)) iX5 (x_sS1 ho) rfl (j := 0) rfl (by decide) (by decide +kernel) dX5_sumOf_6 ?_
      refine a_top (y := (nI n)) hn ?_
      refine a_icmp_ge C dX5_sumOf_9 (tgt := 30) (by decide) (fun h9 => ?_) (fun h9 => ?_)
      · skip
        have e := x_ge h9 hi (by omega)
        subst e
        refine a_iload_n C dX5_sumOf_30 1 rfl ?_
        exact a_iret C hlocks hr dX5_sumOf_31 rfl rfl
      · skip
        have hlt := x_nge h9 hi
        refine a_iload_n C dX5_sumOf_12 0 rfl ?_
        refine a_aload_n C dX5_sumOf_13 3 rfl ?_
        refine a_alen C (k := k) hk (v := 8) rfl dX5_sumOf_14 ?_
        refine a_icmp_ge C dX5_sumOf_15 (tgt := 30) (by decide) (fun h => absurd h (Int32.not_le.mpr (nI_lt (show i < 8 by omega) (by decide)))) (fun h15 => ?_)
        refine a_iload_n C dX5_sumOf_18 1 rfl ?_
        refine a_aload_n C dX5_sumOf_19 3 rfl ?_
        refine a_iload_n C dX5_sumOf_20 0 rfl ?_
        refine a_ialdN C (k := k) hk (i := i) rfl (by omega) (by first | decide | omega) dX5_sumOf_21 ?_
        refine a_iadd C dX5_sumOf_22 ?_
        refine a_istore_n C dX5_sumOf_23 (by decide) (lst2 := [(2, .int ((f_sum (d k) i) + (d k i))), (3, .int (nI i)), (0, .ref (x_b G + (o + 1))), (1, .ref (x_b G + k))]) rfl ?_
        refine a_iinc C dX5_sumOf_24 1 rfl (v := (nI (i + 1))) (x_inc i) (by decide) (lst2 := [(3, .int (nI (i + 1))), (2, .int ((f_sum (d k) i) + (d k i))), (0, .ref (x_b G + (o + 1))), (1, .ref (x_b G + k))]) rfl ?_
        refine a_goto C dX5_sumOf_27 (tgt := 4) (by decide) ?_
        refine a_sub (lst2 := [(3, .int (nI (i + 1))), (2, .int ((f_sum (d k) i) + (d k i))), (0, .ref (x_b G + (o + 1))), (1, .ref (x_b G + k))]) [0, 1, 2, 3] rfl ?_
        exact ih (i + 1) (by omega) (by omega) 
  refine a_sub (lst2 := [(3, .int 0), (2, .int 0), (0, .ref (x_b G + (o + 1))), (1, .ref (x_b G + k))]) [0, 1, 2, 3] rfl ?_
  exact L4 (n + 1) 0 (by omega) (by omega) 

set_option maxHeartbeats 4000000 in
set_option maxRecDepth 100000 in
theorem c_X5_allShares (l : Launch) (G : xG) (d : xd) (o n : Nat) (ho : x_isS o) (hn : d (o + 1) 0 = nI n) (h8 : n ≤ 8) : x_M G l yX5_allShares wsX5_allShares 2 0 0 [.ref (x_b G + (o + 1))] d (some (.int (f_sum (d (o + 3)) n))) d := by
  have iX5 : ∀ w ∈ u_ws RX5 TX5 8, w ∈ wsX5_allShares := by decide +kernel
  refine x_start (cc := cX5_allShares) (maxL := 1) (ret := (some .int)) (own := RX5) (by decide) rfl rfl (Nat.le_of_ble_eq_true rfl) (lst := [(0, .ref (x_b G + (o + 1)))]) rfl ?_
  intro p e s m args below meth c C hr hlocks
  refine a_aload_n C dX5_allShares_0 0 rfl ?_
  refine a_aload_n C dX5_allShares_1 0 rfl ?_
  refine a_getR C (k := (o + 1)) iX5 (x_sS1 ho) rfl (j := 2) rfl (by decide) (by decide +kernel) dX5_allShares_2 ?_
  refine a_callV C (k := (o + 1)) (As := [.ref (x_b G + (o + 3))]) (rest := []) (c_X5_sumOf l G d o n ho hn h8 (o + 3) (x_sS3 ho)) (cwV 1 C.1.2.2.2.2 gX5_allShares_X5_sumOf rfl rfl rfl (by decide +kernel) ⟨Nat.le_of_ble_eq_true rfl, Nat.le_of_ble_eq_true rfl⟩) (x_sS1 ho) (q := (RX5, TX5, 8)) rfl rfl rfl rfl (Nat.le_of_ble_eq_true rfl) dX5_allShares_5 ⟨Nat.le_of_ble_eq_true rfl, Nat.le_of_ble_eq_true rfl⟩ ?_
  exact a_iret C hlocks hr dX5_allShares_8 rfl rfl

set_option maxHeartbeats 4000000 in
set_option maxRecDepth 100000 in
theorem c_X5_readyToBurn (l : Launch) (G : xG) (d : xd) (o i : Nat) (ho : x_isS o) (hi : i < 8) : x_M G l yX5_readyToBurn wsX5_readyToBurn 1 0 0 [.ref (x_b G + (o + 1)), .int (nI i)] d (some (.int (x_bi (f_rdy d o i = true)))) d := by
  have iX5 : ∀ w ∈ u_ws RX5 TX5 8, w ∈ wsX5_readyToBurn := by decide +kernel
  refine x_start (cc := cX5_readyToBurn) (maxL := 2) (ret := (some .boolean)) (own := RX5) (by decide) rfl rfl (Nat.le_of_ble_eq_true rfl) (lst := [(0, .ref (x_b G + (o + 1))), (1, .int (nI i))]) rfl ?_
  intro p e s m args below meth c C hr hlocks
  refine a_aload_n C dX5_readyToBurn_0 0 rfl ?_
  refine a_getR C (k := (o + 1)) iX5 (x_sS1 ho) rfl (j := 4) rfl (by decide) (by decide +kernel) dX5_readyToBurn_1 ?_
  refine a_iload_n C dX5_readyToBurn_4 1 rfl ?_
  refine a_zaldN C (k := (o + 5)) (x_sS5 ho) (i := i) rfl (by omega) (by first | decide | omega) dX5_readyToBurn_5 ?_
  refine a_if_eq C dX5_readyToBurn_6 (tgt := 38) (by decide) (fun h6 => ?_) (fun h6 => ?_)
  · skip
    refine a_iconst C dX5_readyToBurn_38 (v := 0) (by decide) ?_
    exact a_zret C hlocks hr rfl dX5_readyToBurn_39 (x_bi_f (fun h => by have h := of_decide_eq_true h; first | exact h.1 h6 | exact absurd h.2.1 (Int32.not_le.mpr h21) | exact absurd h.2.2 (Int32.not_le.mpr h31))).symm rfl
  · skip
    refine a_aload_n C dX5_readyToBurn_9 0 rfl ?_
    refine a_getR C (k := (o + 1)) iX5 (x_sS1 ho) rfl (j := 5) rfl (by decide) (by decide +kernel) dX5_readyToBurn_10 ?_
    refine a_iload_n C dX5_readyToBurn_13 1 rfl ?_
    refine a_ialdN C (k := (o + 6)) (x_sS6 ho) (i := i) rfl (by omega) (by first | decide | omega) dX5_readyToBurn_14 ?_
    refine a_aload_n C dX5_readyToBurn_15 0 rfl ?_
    refine a_getR C (k := (o + 1)) iX5 (x_sS1 ho) rfl (j := 3) rfl (by decide) (by decide +kernel) dX5_readyToBurn_16 ?_
    refine a_iload_n C dX5_readyToBurn_19 1 rfl ?_
    refine a_ialdN C (k := (o + 4)) (x_sS4 ho) (i := i) rfl (by omega) (by first | decide | omega) dX5_readyToBurn_20 ?_
    refine a_icmp_lt C dX5_readyToBurn_21 (tgt := 38) (by decide) (fun h21 => ?_) (fun h21 => ?_)
    · skip
      refine a_iconst C dX5_readyToBurn_38 (v := 0) (by decide) ?_
      exact a_zret C hlocks hr rfl dX5_readyToBurn_39 (x_bi_f (fun h => by have h := of_decide_eq_true h; first | exact h.1 h6 | exact absurd h.2.1 (Int32.not_le.mpr h21) | exact absurd h.2.2 (Int32.not_le.mpr h31))).symm rfl
    · skip
      refine a_aload_n C dX5_readyToBurn_24 0 rfl ?_
      refine a_getR C (k := (o + 1)) iX5 (x_sS1 ho) rfl (j := 6) rfl (by decide) (by decide +kernel) dX5_readyToBurn_25 ?_
      refine a_iload_n C dX5_readyToBurn_28 1 rfl ?_
      refine a_ialdN C (k := (o + 7)) (x_sS7 ho) (i := i) rfl (by omega) (by first | decide | omega) dX5_readyToBurn_29 ?_
      refine a_iconst C dX5_readyToBurn_30 (v := 1) (by decide) ?_
      refine a_icmp_lt C dX5_readyToBurn_31 (tgt := 38) (by decide) (fun h31 => ?_) (fun h31 => ?_)
      · skip
        refine a_iconst C dX5_readyToBurn_38 (v := 0) (by decide) ?_
        exact a_zret C hlocks hr rfl dX5_readyToBurn_39 (x_bi_f (fun h => by have h := of_decide_eq_true h; first | exact h.1 h6 | exact absurd h.2.1 (Int32.not_le.mpr h21) | exact absurd h.2.2 (Int32.not_le.mpr h31))).symm rfl
      · skip
        refine a_iconst C dX5_readyToBurn_34 (v := 1) (by decide) ?_
        refine a_goto C dX5_readyToBurn_35 (tgt := 39) (by decide) ?_
        exact a_zret C hlocks hr rfl dX5_readyToBurn_39 (x_bi_t (decide_eq_true ⟨h6, Int32.not_lt.mp h21, Int32.not_lt.mp h31⟩)).symm rfl

set_option maxHeartbeats 4000000 in
set_option maxRecDepth 100000 in
theorem c_X5_nightsByFormula (l : Launch) (G : xG) (d : xd) (o i : Nat) (ho : x_isS o) (hi : i < 8) : x_M G l yX5_nightsByFormula wsX5_nightsByFormula 1 0 0 [.ref (x_b G + (o + 1)), .int (nI i)] d (some (.int (f_nf d o i))) d := by
  have iX5 : ∀ w ∈ u_ws RX5 TX5 8, w ∈ wsX5_nightsByFormula := by decide +kernel
  refine x_start (cc := cX5_nightsByFormula) (maxL := 3) (ret := (some .int)) (own := RX5) (by decide) rfl rfl (Nat.le_of_ble_eq_true rfl) (lst := [(0, .ref (x_b G + (o + 1))), (1, .int (nI i))]) rfl ?_
  intro p e s m args below meth c C hr hlocks
  refine a_aload_n C dX5_nightsByFormula_0 0 rfl ?_
  refine a_getR C (k := (o + 1)) iX5 (x_sS1 ho) rfl (j := 3) rfl (by decide) (by decide +kernel) dX5_nightsByFormula_1 ?_
  refine a_iload_n C dX5_nightsByFormula_4 1 rfl ?_
  refine a_ialdN C (k := (o + 4)) (x_sS4 ho) (i := i) rfl (by omega) (by first | decide | omega) dX5_nightsByFormula_5 ?_
  refine a_istore_n C dX5_nightsByFormula_6 (by decide) (lst2 := [(2, .int (d (o + 4) i)), (0, .ref (x_b G + (o + 1))), (1, .int (nI i))]) rfl ?_
  refine a_iload_n C dX5_nightsByFormula_7 0 rfl ?_
  refine a_iconst C dX5_nightsByFormula_8 (v := 1) (by decide) ?_
  refine a_icmp_ge C dX5_nightsByFormula_9 (tgt := 16) (by decide) (fun h9 => ?_) (fun h9 => ?_)
  · skip
    refine a_aload_n C dX5_nightsByFormula_16 1 rfl ?_
    refine a_getR C (k := (o + 1)) iX5 (x_sS1 ho) rfl (j := 5) rfl (by decide) (by decide +kernel) dX5_nightsByFormula_17 ?_
    refine a_iload_n C dX5_nightsByFormula_20 2 rfl ?_
    refine a_ialdN C (k := (o + 6)) (x_sS6 ho) (i := i) rfl (by omega) (by first | decide | omega) dX5_nightsByFormula_21 ?_
    refine a_iload_n C dX5_nightsByFormula_22 0 rfl ?_
    refine a_idiv C dX5_nightsByFormula_23 (fun e => by rw [e] at h9; exact absurd h9 (by decide)) ?_
    refine a_aload_n C dX5_nightsByFormula_24 1 rfl ?_
    refine a_getR C (k := (o + 1)) iX5 (x_sS1 ho) rfl (j := 6) rfl (by decide) (by decide +kernel) dX5_nightsByFormula_25 ?_
    refine a_iload_n C dX5_nightsByFormula_28 2 rfl ?_
    refine a_ialdN C (k := (o + 7)) (x_sS7 ho) (i := i) rfl (by omega) (by first | decide | omega) dX5_nightsByFormula_29 ?_
    refine a_mmin C (by decide +kernel) (by decide +kernel) (by decide +kernel) (by decide +kernel) (Nat.le_of_ble_eq_true rfl) (Nat.le_of_ble_eq_true rfl) (Nat.le_of_ble_eq_true rfl) (Nat.le_of_ble_eq_true rfl) dX5_nightsByFormula_30 ?_
    exact a_iret C hlocks hr dX5_nightsByFormula_33 (by unfold f_nf; rw [if_neg (Int32.not_lt.mpr h9)]) rfl
  · skip
    refine a_iconst C dX5_nightsByFormula_12 (v := 0) (by decide) ?_
    refine a_goto C dX5_nightsByFormula_13 (tgt := 33) (by decide) ?_
    exact a_iret C hlocks hr dX5_nightsByFormula_33 (by unfold f_nf; rw [if_pos (Int32.not_le.mp h9)]) rfl

set_option maxHeartbeats 4000000 in
set_option maxRecDepth 100000 in
theorem c_X5_nightsOneByOne (l : Launch) (G : xG) (d : xd) (o i q b w : Nat) (ho : x_isS o) (hi : i < 8) (hq : d (o + 6) i = nI q) (hbr : d (o + 4) i = nI b) (hw : d (o + 7) i = nI w) (hq6 : q < 1000) (hb : 0 < b) (hb9 : b < 1000) (hw9 : w < 1000) : x_M G l yX5_nightsOneByOne wsX5_nightsOneByOne 1 0 0 [.ref (x_b G + (o + 1)), .int (nI i)] d (some (.int (nI ((min (q / b) w))))) d := by
  have iX5 : ∀ w ∈ u_ws RX5 TX5 8, w ∈ wsX5_nightsOneByOne := by decide +kernel
  refine x_start (cc := cX5_nightsOneByOne) (maxL := 4) (ret := (some .int)) (own := RX5) (by decide) rfl rfl (Nat.le_of_ble_eq_true rfl) (lst := [(0, .ref (x_b G + (o + 1))), (1, .int (nI i))]) rfl ?_
  intro p e s m args below meth c C hr hlocks
  refine a_aload_n C dX5_nightsOneByOne_0 0 rfl ?_
  refine a_getR C (k := (o + 1)) iX5 (x_sS1 ho) rfl (j := 5) rfl (by decide) (by decide +kernel) dX5_nightsOneByOne_1 ?_
  refine a_iload_n C dX5_nightsOneByOne_4 1 rfl ?_
  refine a_ialdN C (k := (o + 6)) (x_sS6 ho) (i := i) rfl (by omega) (by first | decide | omega) dX5_nightsOneByOne_5 ?_
  refine a_top (y := (nI q)) hq ?_
  refine a_istore_n C dX5_nightsOneByOne_6 (by decide) (lst2 := [(2, .int (nI q)), (0, .ref (x_b G + (o + 1))), (1, .int (nI i))]) rfl ?_
  refine a_iconst C dX5_nightsOneByOne_7 (v := 0) (by decide) ?_
  refine a_istore_n C dX5_nightsOneByOne_8 (by decide) (lst2 := [(3, .int 0), (2, .int (nI q)), (0, .ref (x_b G + (o + 1))), (1, .int (nI i))]) rfl ?_
  have L9 : ∀ (j k : Nat), k ≤ (min (q / b) w) → (min (q / b) w) < k + j → Ab G p l e (x_rm 1 0 0) s m args below meth c 4 0 0 (MQ below (x_Q G (some (.int (nI ((min (q / b) w))))) d) args s 0 0 (x_A G)) 9 [(3, .int (nI k)), (2, .int (nI (q - k * b))), (0, .ref (x_b G + (o + 1))), (1, .int (nI i))] [] d := by
    intro j
    induction j with
    | zero => intro k h1 h2; exact absurd h2 (by omega)
    | succ j ih =>
      intro k hi hj 
      have hib := x_nn4 hb hi
      have hNw : min (q / b) w ≤ w := Nat.min_le_right _ _
      refine a_iload_n C dX5_nightsOneByOne_9 0 rfl ?_
      refine a_aload_n C dX5_nightsOneByOne_10 2 rfl ?_
      refine a_getR C (k := (o + 1)) iX5 (x_sS1 ho) rfl (j := 6) rfl (by decide) (by decide +kernel) dX5_nightsOneByOne_11 ?_
      refine a_iload_n C dX5_nightsOneByOne_14 3 rfl ?_
      refine a_ialdN C (k := (o + 7)) (x_sS7 ho) (i := i) rfl (by omega) (by first | decide | omega) dX5_nightsOneByOne_15 ?_
      refine a_top (y := (nI w)) hw ?_
      refine a_icmp_ge C dX5_nightsOneByOne_16 (tgt := 44) (by decide) (fun h16 => ?_) (fun h16 => ?_)
      · skip
        have e := x_nn1 hi ((nI_leI (by omega) (by omega)).mp h16)
        rw [e]
        refine a_iload_n C dX5_nightsOneByOne_44 0 rfl ?_
        exact a_iret C hlocks hr dX5_nightsOneByOne_45 rfl rfl
      · skip
        have hkw : k < w := by
          rcases Nat.lt_or_ge k w with z | z
          · exact z
          · exact absurd ((nI_leI (by omega) (by omega)).mpr z) h16
        refine a_iload_n C dX5_nightsOneByOne_19 1 rfl ?_
        refine a_aload_n C dX5_nightsOneByOne_20 2 rfl ?_
        refine a_getR C (k := (o + 1)) iX5 (x_sS1 ho) rfl (j := 3) rfl (by decide) (by decide +kernel) dX5_nightsOneByOne_21 ?_
        refine a_iload_n C dX5_nightsOneByOne_24 3 rfl ?_
        refine a_ialdN C (k := (o + 4)) (x_sS4 ho) (i := i) rfl (by omega) (by first | decide | omega) dX5_nightsOneByOne_25 ?_
        refine a_top (y := (nI b)) hbr ?_
        refine a_icmp_lt C dX5_nightsOneByOne_26 (tgt := 44) (by decide) (fun h26 => ?_) (fun h26 => ?_)
        · skip
          have e := x_nn2 hb hi ((nI_ltI (by omega) (by omega)).mp h26)
          rw [e]
          refine a_iload_n C dX5_nightsOneByOne_44 0 rfl ?_
          exact a_iret C hlocks hr dX5_nightsOneByOne_45 rfl rfl
        · skip
          have h3 := x_nn3 hb hib hkw (fun z => h26 ((nI_ltI (by omega) (by omega)).mpr z))
          have h4 : b ≤ q - k * b := Nat.le_of_not_lt (fun z => h26 ((nI_ltI (by omega) (by omega)).mpr z))
          refine a_iload_n C dX5_nightsOneByOne_29 1 rfl ?_
          refine a_aload_n C dX5_nightsOneByOne_30 2 rfl ?_
          refine a_getR C (k := (o + 1)) iX5 (x_sS1 ho) rfl (j := 3) rfl (by decide) (by decide +kernel) dX5_nightsOneByOne_31 ?_
          refine a_iload_n C dX5_nightsOneByOne_34 3 rfl ?_
          refine a_ialdN C (k := (o + 4)) (x_sS4 ho) (i := i) rfl (by omega) (by first | decide | omega) dX5_nightsOneByOne_35 ?_
          refine a_top (y := (nI b)) hbr ?_
          refine a_isub C dX5_nightsOneByOne_36 ?_
          refine a_top (y := (nI (q - k * b - b))) (pk_sub h4) ?_
          refine a_istore_n C dX5_nightsOneByOne_37 (by decide) (lst2 := [(2, .int (nI (q - k * b - b))), (3, .int (nI k)), (0, .ref (x_b G + (o + 1))), (1, .int (nI i))]) rfl ?_
          refine a_iinc C dX5_nightsOneByOne_38 1 rfl (v := (nI (k + 1))) (x_inc k) (by decide) (lst2 := [(3, .int (nI (k + 1))), (2, .int (nI (q - k * b - b))), (0, .ref (x_b G + (o + 1))), (1, .int (nI i))]) rfl ?_
          refine a_goto C dX5_nightsOneByOne_41 (tgt := 9) (by decide) ?_
          refine a_sub (lst2 := [(3, .int (nI (k + 1))), (2, .int (nI (q - k * b - b))), (0, .ref (x_b G + (o + 1))), (1, .int (nI i))]) [0, 1, 2, 3] rfl ?_
          refine a_to (lst2 := [(3, .int (nI ((k + 1)))), (2, .int (nI (q - ((k + 1)) * b))), (0, .ref (x_b G + (o + 1))), (1, .int (nI i))]) (st2 := []) (d2 := d) (by rw [Nat.add_mul, Nat.one_mul, Nat.sub_add_eq]) rfl rfl ?_
          exact ih (k + 1) (by omega) (by omega) 
  refine a_sub (lst2 := [(3, .int 0), (2, .int (nI q)), (0, .ref (x_b G + (o + 1))), (1, .int (nI i))]) [0, 1, 2, 3] rfl ?_
  refine a_to (lst2 := [(3, .int (nI 0)), (2, .int (nI (q - 0 * b))), (0, .ref (x_b G + (o + 1))), (1, .int (nI i))]) (by rw [Nat.zero_mul]; rfl) rfl rfl ?_
  exact L9 (min (q / b) w + 1) 0 (Nat.zero_le _) (by rw [Nat.zero_add]; exact Nat.lt_succ_self _)

set_option maxHeartbeats 4000000 in
set_option maxRecDepth 100000 in
theorem c_X5_glowIn (l : Launch) (G : xG) (d : xd) (o n : Nat) (ho : x_isS o) (hn : d (o + 1) 0 = nI n) (h8 : n ≤ 8) (x : Int32) : x_M G l yX5_glowIn wsX5_glowIn 2 0 0 [.ref (x_b G + (o + 1)), .int x] d (some (.int (f_glow d o x n))) d := by
  have iX5 : ∀ w ∈ u_ws RX5 TX5 8, w ∈ wsX5_glowIn := by decide +kernel
  refine x_start (cc := cX5_glowIn) (maxL := 4) (ret := (some .int)) (own := RX5) (by decide) rfl rfl (Nat.le_of_ble_eq_true rfl) (lst := [(0, .ref (x_b G + (o + 1))), (1, .int x)]) rfl ?_
  intro p e s m args below meth c C hr hlocks
  refine a_iconst C dX5_glowIn_0 (v := 0) (by decide) ?_
  refine a_istore_n C dX5_glowIn_1 (by decide) (lst2 := [(2, .int 0), (0, .ref (x_b G + (o + 1))), (1, .int x)]) rfl ?_
  refine a_iconst C dX5_glowIn_2 (v := 0) (by decide) ?_
  refine a_istore_n C dX5_glowIn_3 (by decide) (lst2 := [(3, .int 0), (2, .int 0), (0, .ref (x_b G + (o + 1))), (1, .int x)]) rfl ?_
  have L4 : ∀ (j i : Nat), i ≤ n → n < i + j → Ab G p l e (x_rm 2 0 0) s m args below meth c 4 0 0 (MQ below (x_Q G (some (.int (f_glow d o x n))) d) args s 0 0 (x_A G)) 4 [(3, .int (nI i)), (2, .int (f_glow d o x i)), (0, .ref (x_b G + (o + 1))), (1, .int x)] [] d := by
    intro j
    induction j with
    | zero => intro i h1 h2; exact absurd h2 (by omega)
    | succ j ih =>
      intro i hi hj 
      refine a_iload_n C dX5_glowIn_4 0 rfl ?_
      refine a_aload_n C dX5_glowIn_5 2 rfl ?_
      refine a_getI C (k := (o + 1)) iX5 (x_sS1 ho) rfl (j := 0) rfl (by decide) (by decide +kernel) dX5_glowIn_6 ?_
      refine a_top (y := (nI n)) hn ?_
      refine a_icmp_ge C dX5_glowIn_9 (tgt := 45) (by decide) (fun h9 => ?_) (fun h9 => ?_)
      · skip
        have e := x_ge h9 hi (by omega)
        subst e
        refine a_iload_n C dX5_glowIn_45 1 rfl ?_
        exact a_iret C hlocks hr dX5_glowIn_46 rfl rfl
      · skip
        have hlt := x_nge h9 hi
        refine a_aload_n C dX5_glowIn_12 2 rfl ?_
        refine a_getR C (k := (o + 1)) iX5 (x_sS1 ho) rfl (j := 1) rfl (by decide) (by decide +kernel) dX5_glowIn_13 ?_
        refine a_iload_n C dX5_glowIn_16 0 rfl ?_
        refine a_ialdN C (k := (o + 2)) (x_sS2 ho) (i := i) rfl (by omega) (by first | decide | omega) dX5_glowIn_17 ?_
        refine a_iload_n C dX5_glowIn_18 3 rfl ?_
        refine a_icmp_ne C dX5_glowIn_19 (tgt := 39) (by decide) (fun h19 => ?_) (fun h19 => ?_)
        · skip
          refine a_iinc C dX5_glowIn_39 0 rfl (v := (nI (i + 1))) (x_inc i) (by decide) (lst2 := [(3, .int (nI (i + 1))), (2, .int (f_glow d o x i)), (0, .ref (x_b G + (o + 1))), (1, .int x)]) rfl ?_
          refine a_goto C dX5_glowIn_42 (tgt := 4) (by decide) ?_
          refine a_sub (lst2 := [(3, .int (nI (i + 1))), (2, .int (f_glow d o x i)), (0, .ref (x_b G + (o + 1))), (1, .int x)]) [0, 1, 2, 3] rfl ?_
          refine a_to (lst2 := [(3, .int (nI ((i + 1)))), (2, .int (f_glow d o x ((i + 1)))), (0, .ref (x_b G + (o + 1))), (1, .int x)]) (st2 := []) (d2 := d) (by rw [f_glow, if_neg (fun z => h19 z.1)]) rfl rfl ?_
          exact ih (i + 1) (by omega) (by omega) 
        · skip
          refine a_aload_n C dX5_glowIn_22 2 rfl ?_
          refine a_iload_n C dX5_glowIn_23 0 rfl ?_
          refine a_callV C (k := (o + 1)) (As := [.int (nI i)]) (rest := []) (c_X5_readyToBurn l G d o i ho (by omega)) (cwV 1 C.1.2.2.2.2 gX5_glowIn_X5_readyToBurn rfl rfl rfl (by decide +kernel) ⟨Nat.le_of_ble_eq_true rfl, Nat.le_of_ble_eq_true rfl⟩) (x_sS1 ho) (q := (RX5, TX5, 8)) rfl rfl rfl rfl (Nat.le_of_ble_eq_true rfl) dX5_glowIn_24 ⟨Nat.le_of_ble_eq_true rfl, Nat.le_of_ble_eq_true rfl⟩ ?_
          refine a_if_eq C dX5_glowIn_27 (tgt := 39) (by decide) (fun h27 => ?_) (fun h27 => ?_)
          · skip
            refine a_iinc C dX5_glowIn_39 0 rfl (v := (nI (i + 1))) (x_inc i) (by decide) (lst2 := [(3, .int (nI (i + 1))), (2, .int (f_glow d o x i)), (0, .ref (x_b G + (o + 1))), (1, .int x)]) rfl ?_
            refine a_goto C dX5_glowIn_42 (tgt := 4) (by decide) ?_
            refine a_sub (lst2 := [(3, .int (nI (i + 1))), (2, .int (f_glow d o x i)), (0, .ref (x_b G + (o + 1))), (1, .int x)]) [0, 1, 2, 3] rfl ?_
            refine a_to (lst2 := [(3, .int (nI ((i + 1)))), (2, .int (f_glow d o x ((i + 1)))), (0, .ref (x_b G + (o + 1))), (1, .int x)]) (st2 := []) (d2 := d) (by rw [f_glow, if_neg (fun z => x_bi_z h27 z.2)]) rfl rfl ?_
            exact ih (i + 1) (by omega) (by omega) 
          · skip
            refine a_iload_n C dX5_glowIn_30 1 rfl ?_
            refine a_aload_n C dX5_glowIn_31 2 rfl ?_
            refine a_getR C (k := (o + 1)) iX5 (x_sS1 ho) rfl (j := 3) rfl (by decide) (by decide +kernel) dX5_glowIn_32 ?_
            refine a_iload_n C dX5_glowIn_35 0 rfl ?_
            refine a_ialdN C (k := (o + 4)) (x_sS4 ho) (i := i) rfl (by omega) (by first | decide | omega) dX5_glowIn_36 ?_
            refine a_iadd C dX5_glowIn_37 ?_
            refine a_istore_n C dX5_glowIn_38 (by decide) (lst2 := [(2, .int ((f_glow d o x i) + (d (o + 4) i))), (3, .int (nI i)), (0, .ref (x_b G + (o + 1))), (1, .int x)]) rfl ?_
            refine a_iinc C dX5_glowIn_39 1 rfl (v := (nI (i + 1))) (x_inc i) (by decide) (lst2 := [(3, .int (nI (i + 1))), (2, .int ((f_glow d o x i) + (d (o + 4) i))), (0, .ref (x_b G + (o + 1))), (1, .int x)]) rfl ?_
            refine a_goto C dX5_glowIn_42 (tgt := 4) (by decide) ?_
            refine a_sub (lst2 := [(3, .int (nI (i + 1))), (2, .int ((f_glow d o x i) + (d (o + 4) i))), (0, .ref (x_b G + (o + 1))), (1, .int x)]) [0, 1, 2, 3] rfl ?_
            refine a_to (lst2 := [(3, .int (nI ((i + 1)))), (2, .int (f_glow d o x ((i + 1)))), (0, .ref (x_b G + (o + 1))), (1, .int x)]) (st2 := []) (d2 := d) (by rw [f_glow, if_pos ⟨h19, x_bi_nz h27⟩]) rfl rfl ?_
            exact ih (i + 1) (by omega) (by omega) 
  refine a_sub (lst2 := [(3, .int 0), (2, .int 0), (0, .ref (x_b G + (o + 1))), (1, .int x)]) [0, 1, 2, 3] rfl ?_
  exact L4 (n + 1) 0 (by omega) (by omega) 

set_option maxHeartbeats 4000000 in
set_option maxRecDepth 100000 in
theorem c_X5_sharesFor (l : Launch) (G : xG) (d : xd) (o n : Nat) (ho : x_isS o) (hn : d (o + 1) 0 = nI n) (h8 : n ≤ 8) (x : Int32) : x_M G l yX5_sharesFor wsX5_sharesFor 1 0 0 [.ref (x_b G + (o + 1)), .int x] d (some (.int (f_votes d o x n))) d := by
  have iX5 : ∀ w ∈ u_ws RX5 TX5 8, w ∈ wsX5_sharesFor := by decide +kernel
  refine x_start (cc := cX5_sharesFor) (maxL := 4) (ret := (some .int)) (own := RX5) (by decide) rfl rfl (Nat.le_of_ble_eq_true rfl) (lst := [(0, .ref (x_b G + (o + 1))), (1, .int x)]) rfl ?_
  intro p e s m args below meth c C hr hlocks
  refine a_iconst C dX5_sharesFor_0 (v := 0) (by decide) ?_
  refine a_istore_n C dX5_sharesFor_1 (by decide) (lst2 := [(2, .int 0), (0, .ref (x_b G + (o + 1))), (1, .int x)]) rfl ?_
  refine a_iconst C dX5_sharesFor_2 (v := 0) (by decide) ?_
  refine a_istore_n C dX5_sharesFor_3 (by decide) (lst2 := [(3, .int 0), (2, .int 0), (0, .ref (x_b G + (o + 1))), (1, .int x)]) rfl ?_
  have L4 : ∀ (j i : Nat), i ≤ n → n < i + j → Ab G p l e (x_rm 1 0 0) s m args below meth c 4 0 0 (MQ below (x_Q G (some (.int (f_votes d o x n))) d) args s 0 0 (x_A G)) 4 [(3, .int (nI i)), (2, .int (f_votes d o x i)), (0, .ref (x_b G + (o + 1))), (1, .int x)] [] d := by
    intro j
    induction j with
    | zero => intro i h1 h2; exact absurd h2 (by omega)
    | succ j ih =>
      intro i hi hj 
      refine a_iload_n C dX5_sharesFor_4 0 rfl ?_
      refine a_aload_n C dX5_sharesFor_5 2 rfl ?_
      refine a_getI C (k := (o + 1)) iX5 (x_sS1 ho) rfl (j := 0) rfl (by decide) (by decide +kernel) dX5_sharesFor_6 ?_
      refine a_top (y := (nI n)) hn ?_
      refine a_icmp_ge C dX5_sharesFor_9 (tgt := 37) (by decide) (fun h9 => ?_) (fun h9 => ?_)
      · skip
        have e := x_ge h9 hi (by omega)
        subst e
        refine a_iload_n C dX5_sharesFor_37 1 rfl ?_
        exact a_iret C hlocks hr dX5_sharesFor_38 rfl rfl
      · skip
        have hlt := x_nge h9 hi
        refine a_aload_n C dX5_sharesFor_12 2 rfl ?_
        refine a_getR C (k := (o + 1)) iX5 (x_sS1 ho) rfl (j := 3) rfl (by decide) (by decide +kernel) dX5_sharesFor_13 ?_
        refine a_iload_n C dX5_sharesFor_16 0 rfl ?_
        refine a_ialdN C (k := (o + 4)) (x_sS4 ho) (i := i) rfl (by omega) (by first | decide | omega) dX5_sharesFor_17 ?_
        refine a_iload_n C dX5_sharesFor_18 3 rfl ?_
        refine a_icmp_gt C dX5_sharesFor_19 (tgt := 31) (by decide) (fun h19 => ?_) (fun h19 => ?_)
        · skip
          refine a_iinc C dX5_sharesFor_31 0 rfl (v := (nI (i + 1))) (x_inc i) (by decide) (lst2 := [(3, .int (nI (i + 1))), (2, .int (f_votes d o x i)), (0, .ref (x_b G + (o + 1))), (1, .int x)]) rfl ?_
          refine a_goto C dX5_sharesFor_34 (tgt := 4) (by decide) ?_
          refine a_sub (lst2 := [(3, .int (nI (i + 1))), (2, .int (f_votes d o x i)), (0, .ref (x_b G + (o + 1))), (1, .int x)]) [0, 1, 2, 3] rfl ?_
          refine a_to (lst2 := [(3, .int (nI ((i + 1)))), (2, .int (f_votes d o x ((i + 1)))), (0, .ref (x_b G + (o + 1))), (1, .int x)]) (st2 := []) (d2 := d) (by rw [f_votes, if_neg (Int32.not_le.mpr h19)]) rfl rfl ?_
          exact ih (i + 1) (by omega) (by omega) 
        · skip
          refine a_iload_n C dX5_sharesFor_22 1 rfl ?_
          refine a_aload_n C dX5_sharesFor_23 2 rfl ?_
          refine a_getR C (k := (o + 1)) iX5 (x_sS1 ho) rfl (j := 2) rfl (by decide) (by decide +kernel) dX5_sharesFor_24 ?_
          refine a_iload_n C dX5_sharesFor_27 0 rfl ?_
          refine a_ialdN C (k := (o + 3)) (x_sS3 ho) (i := i) rfl (by omega) (by first | decide | omega) dX5_sharesFor_28 ?_
          refine a_iadd C dX5_sharesFor_29 ?_
          refine a_istore_n C dX5_sharesFor_30 (by decide) (lst2 := [(2, .int ((f_votes d o x i) + (d (o + 3) i))), (3, .int (nI i)), (0, .ref (x_b G + (o + 1))), (1, .int x)]) rfl ?_
          refine a_iinc C dX5_sharesFor_31 1 rfl (v := (nI (i + 1))) (x_inc i) (by decide) (lst2 := [(3, .int (nI (i + 1))), (2, .int ((f_votes d o x i) + (d (o + 3) i))), (0, .ref (x_b G + (o + 1))), (1, .int x)]) rfl ?_
          refine a_goto C dX5_sharesFor_34 (tgt := 4) (by decide) ?_
          refine a_sub (lst2 := [(3, .int (nI (i + 1))), (2, .int ((f_votes d o x i) + (d (o + 3) i))), (0, .ref (x_b G + (o + 1))), (1, .int x)]) [0, 1, 2, 3] rfl ?_
          refine a_to (lst2 := [(3, .int (nI ((i + 1)))), (2, .int (f_votes d o x ((i + 1)))), (0, .ref (x_b G + (o + 1))), (1, .int x)]) (st2 := []) (d2 := d) (by rw [f_votes, if_pos (Int32.not_lt.mp h19)]) rfl rfl ?_
          exact ih (i + 1) (by omega) (by omega) 
  refine a_sub (lst2 := [(3, .int 0), (2, .int 0), (0, .ref (x_b G + (o + 1))), (1, .int x)]) [0, 1, 2, 3] rfl ?_
  exact L4 (n + 1) 0 (by omega) (by omega) 

def f_wc (d : xd) (o n : Nat) (x : Int32) : Bool := decide (f_sum (d (o + 3)) n < 2 * f_votes d o x n)
set_option maxHeartbeats 4000000 in
set_option maxRecDepth 100000 in
theorem c_X5_wouldCarry (l : Launch) (G : xG) (d : xd) (o n : Nat) (ho : x_isS o) (hn : d (o + 1) 0 = nI n) (h8 : n ≤ 8) (x : Int32) : x_M G l yX5_wouldCarry wsX5_wouldCarry 3 0 0 [.ref (x_b G + (o + 1)), .int x] d (some (.int (x_bi (f_wc d o n x = true)))) d := by
  refine x_start (cc := cX5_wouldCarry) (maxL := 2) (ret := (some .boolean)) (own := RX5) (by decide) rfl rfl (Nat.le_of_ble_eq_true rfl) (lst := [(0, .ref (x_b G + (o + 1))), (1, .int x)]) rfl ?_
  intro p e s m args below meth c C hr hlocks
  refine a_iconst C dX5_wouldCarry_0 (v := 2) (by decide) ?_
  refine a_aload_n C dX5_wouldCarry_1 0 rfl ?_
  refine a_iload_n C dX5_wouldCarry_2 1 rfl ?_
  refine a_callV C (k := (o + 1)) (As := [.int x]) (rest := [.int 2]) (c_X5_sharesFor l G d o n ho hn h8 x) (cwV 1 C.1.2.2.2.2 gX5_wouldCarry_X5_sharesFor rfl rfl rfl (by decide +kernel) ⟨Nat.le_of_ble_eq_true rfl, Nat.le_of_ble_eq_true rfl⟩) (x_sS1 ho) (q := (RX5, TX5, 8)) rfl rfl rfl rfl (Nat.le_of_ble_eq_true rfl) dX5_wouldCarry_3 ⟨Nat.le_of_ble_eq_true rfl, Nat.le_of_ble_eq_true rfl⟩ ?_
  refine a_imul C dX5_wouldCarry_6 ?_
  refine a_aload_n C dX5_wouldCarry_7 0 rfl ?_
  refine a_callV C (k := (o + 1)) (As := []) (rest := [.int (2 * (f_votes d o x n))]) (c_X5_allShares l G d o n ho hn h8) (cwV 0 C.1.2.2.2.2 gX5_wouldCarry_X5_allShares rfl rfl rfl (by decide +kernel) ⟨Nat.le_of_ble_eq_true rfl, Nat.le_of_ble_eq_true rfl⟩) (x_sS1 ho) (q := (RX5, TX5, 8)) rfl rfl rfl rfl (Nat.le_of_ble_eq_true rfl) dX5_wouldCarry_8 ⟨Nat.le_of_ble_eq_true rfl, Nat.le_of_ble_eq_true rfl⟩ ?_
  refine a_icmp_le C dX5_wouldCarry_11 (tgt := 18) (by decide) (fun h11 => ?_) (fun h11 => ?_)
  · skip
    refine a_iconst C dX5_wouldCarry_18 (v := 0) (by decide) ?_
    exact a_zret C hlocks hr rfl dX5_wouldCarry_19 (x_bi_f (fun h => absurd (of_decide_eq_true h) (Int32.not_lt.mpr h11))).symm rfl
  · skip
    refine a_iconst C dX5_wouldCarry_14 (v := 1) (by decide) ?_
    refine a_goto C dX5_wouldCarry_15 (tgt := 19) (by decide) ?_
    exact a_zret C hlocks hr rfl dX5_wouldCarry_19 (x_bi_t (decide_eq_true (Int32.not_le.mp h11))).symm rfl

set_option maxHeartbeats 4000000 in
set_option maxRecDepth 100000 in
theorem c_X5_voteOnCap_n (l : Launch) (G : xG) (d : xd) (o n : Nat) (ho : x_isS o) (hn : d (o + 1) 0 = nI n) (h8 : n ≤ 8) (x : Int32) (hc : ¬ f_wc d o n x = true) : x_M G l yX5_voteOnCap wsX5_voteOnCap 4 0 0 [.ref (x_b G + (o + 1)), .int x] d (some (.int 0)) d := by
  refine x_start (cc := cX5_voteOnCap) (maxL := 3) (ret := (some .boolean)) (own := RX5) (by decide) rfl rfl (Nat.le_of_ble_eq_true rfl) (lst := [(0, .ref (x_b G + (o + 1))), (1, .int x)]) rfl ?_
  intro p e s m args below meth c C hr hlocks
  refine a_aload_n C dX5_voteOnCap_0 0 rfl ?_
  refine a_iload_n C dX5_voteOnCap_1 1 rfl ?_
  refine a_callV C (k := (o + 1)) (As := [.int x]) (rest := []) (c_X5_wouldCarry l G d o n ho hn h8 x) (cwV 1 C.1.2.2.2.2 gX5_voteOnCap_X5_wouldCarry rfl rfl rfl (by decide +kernel) ⟨Nat.le_of_ble_eq_true rfl, Nat.le_of_ble_eq_true rfl⟩) (x_sS1 ho) (q := (RX5, TX5, 8)) rfl rfl rfl rfl (Nat.le_of_ble_eq_true rfl) dX5_voteOnCap_2 ⟨Nat.le_of_ble_eq_true rfl, Nat.le_of_ble_eq_true rfl⟩ ?_
  refine a_top (y := 0) (x_bi_f hc) ?_
  refine a_if_ne C dX5_voteOnCap_5 (tgt := 10) (by decide) (fun h => absurd h (by decide)) (fun _ => ?_)
  refine a_iconst C dX5_voteOnCap_8 (v := 0) (by decide) ?_
  exact a_zret C hlocks hr rfl dX5_voteOnCap_9 rfl rfl

set_option maxHeartbeats 4000000 in
set_option maxRecDepth 100000 in
theorem c_X5_voteOnCap_y (l : Launch) (G : xG) (d : xd) (o n : Nat) (ho : x_isS o) (hn : d (o + 1) 0 = nI n) (h8 : n ≤ 8) (x : Int32) (hc : f_wc d o n x = true) : x_M G l yX5_voteOnCap wsX5_voteOnCap 4 0 0 [.ref (x_b G + (o + 1)), .int x] d (some (.int 1)) (x_r d (o + 4) (f_cap (d (o + 4)) x n)) := by
  have iX5 : ∀ w ∈ u_ws RX5 TX5 8, w ∈ wsX5_voteOnCap := by decide +kernel
  refine x_start (cc := cX5_voteOnCap) (maxL := 3) (ret := (some .boolean)) (own := RX5) (by decide) rfl rfl (Nat.le_of_ble_eq_true rfl) (lst := [(0, .ref (x_b G + (o + 1))), (1, .int x)]) rfl ?_
  intro p e s m args below meth c C hr hlocks
  refine a_aload_n C dX5_voteOnCap_0 0 rfl ?_
  refine a_iload_n C dX5_voteOnCap_1 1 rfl ?_
  refine a_callV C (k := (o + 1)) (As := [.int x]) (rest := []) (c_X5_wouldCarry l G d o n ho hn h8 x) (cwV 1 C.1.2.2.2.2 gX5_voteOnCap_X5_wouldCarry rfl rfl rfl (by decide +kernel) ⟨Nat.le_of_ble_eq_true rfl, Nat.le_of_ble_eq_true rfl⟩) (x_sS1 ho) (q := (RX5, TX5, 8)) rfl rfl rfl rfl (Nat.le_of_ble_eq_true rfl) dX5_voteOnCap_2 ⟨Nat.le_of_ble_eq_true rfl, Nat.le_of_ble_eq_true rfl⟩ ?_
  refine a_top (y := 1) (x_bi_t hc) ?_
  refine a_if_ne C dX5_voteOnCap_5 (tgt := 10) (by decide) (fun _ => ?_) (fun h => absurd h (by decide))
  refine a_iconst C dX5_voteOnCap_10 (v := 0) (by decide) ?_
  refine a_istore_n C dX5_voteOnCap_11 (by decide) (lst2 := [(2, .int 0), (0, .ref (x_b G + (o + 1))), (1, .int x)]) rfl ?_
  have L12 : ∀ (j i : Nat), i ≤ n → n < i + j → Ab G p l e (x_rm 4 0 0) s m args below meth c 3 0 0 (MQ below (x_Q G (some (.int 1)) (x_r d (o + 4) (f_cap (d (o + 4)) x n))) args s 0 0 (x_A G)) 12 [(2, .int (nI i)), (0, .ref (x_b G + (o + 1))), (1, .int x)] [] (x_r d (o + 4) (f_cap (d (o + 4)) x i)) := by
    intro j
    induction j with
    | zero => intro i h1 h2; exact absurd h2 (by omega)
    | succ j ih =>
      intro i hi hj 
      refine a_iload_n C dX5_voteOnCap_12 0 rfl ?_
      refine a_aload_n C dX5_voteOnCap_13 1 rfl ?_
      refine a_getI C (k := (o + 1)) iX5 (x_sS1 ho) rfl (j := 0) rfl (by decide) (by decide +kernel) dX5_voteOnCap_14 ?_
      refine a_top (y := (d (o + 1) 0)) (by rw [x_r_ne2 (by omega)]) ?_
      refine a_top (y := (nI n)) hn ?_
      refine a_icmp_ge C dX5_voteOnCap_17 (tgt := 42) (by decide) (fun h17 => ?_) (fun h17 => ?_)
      · skip
        have e := x_ge h17 hi (by omega)
        subst e
        refine a_iconst C dX5_voteOnCap_42 (v := 1) (by decide) ?_
        exact a_zret C hlocks hr rfl dX5_voteOnCap_43 rfl rfl
      · skip
        have hlt := x_nge h17 hi
        refine a_aload_n C dX5_voteOnCap_20 1 rfl ?_
        refine a_getR C (k := (o + 1)) iX5 (x_sS1 ho) rfl (j := 3) rfl (by decide) (by decide +kernel) dX5_voteOnCap_21 ?_
        refine a_iload_n C dX5_voteOnCap_24 0 rfl ?_
        refine a_aload_n C dX5_voteOnCap_25 1 rfl ?_
        refine a_getR C (k := (o + 1)) iX5 (x_sS1 ho) rfl (j := 3) rfl (by decide) (by decide +kernel) dX5_voteOnCap_26 ?_
        refine a_iload_n C dX5_voteOnCap_29 0 rfl ?_
        refine a_ialdN C (k := (o + 4)) (x_sS4 ho) (i := i) rfl (by omega) (by first | decide | omega) dX5_voteOnCap_30 ?_
        refine a_top (y := (f_cap (d (o + 4)) x i i)) (by rw [x_r_same]) ?_
        refine a_iload_n C dX5_voteOnCap_31 2 rfl ?_
        refine a_mmin C (by decide +kernel) (by decide +kernel) (by decide +kernel) (by decide +kernel) (Nat.le_of_ble_eq_true rfl) (Nat.le_of_ble_eq_true rfl) (Nat.le_of_ble_eq_true rfl) (Nat.le_of_ble_eq_true rfl) dX5_voteOnCap_32 ?_
        refine a_iastN C (k := (o + 4)) (x_sS4 ho) (i := i) rfl (by omega) (by first | decide | omega) dX5_voteOnCap_35 ?_
        refine a_iinc C dX5_voteOnCap_36 0 rfl (v := (nI (i + 1))) (x_inc i) (by decide) (lst2 := [(2, .int (nI (i + 1))), (0, .ref (x_b G + (o + 1))), (1, .int x)]) rfl ?_
        refine a_goto C dX5_voteOnCap_39 (tgt := 12) (by decide) ?_
        refine a_sub (lst2 := [(2, .int (nI (i + 1))), (0, .ref (x_b G + (o + 1))), (1, .int x)]) [0, 1, 2] rfl ?_
        refine a_to (lst2 := [(2, .int (nI ((i + 1)))), (0, .ref (x_b G + (o + 1))), (1, .int x)]) (st2 := []) (d2 := x_r d (o + 4) (f_cap (d (o + 4)) x ((i + 1)))) rfl rfl (x_p_r2 (by rw [f_cap])).symm ?_
        exact ih (i + 1) (by omega) (by omega) 
  refine a_sub (lst2 := [(2, .int 0), (0, .ref (x_b G + (o + 1))), (1, .int x)]) [0, 1, 2] rfl ?_
  refine a_toD (d2 := x_r d (o + 4) (f_cap (d (o + 4)) x 0)) (x_r_id d (o + 4)) ?_
  exact L12 (n + 1) 0 (by omega) (by omega)


