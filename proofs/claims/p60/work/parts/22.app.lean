/-- sums of numbers -/
def f_sn (s : Nat → Nat) : Nat → Nat
  | 0 => 0
  | n + 1 => f_sn s n + s n
theorem x_sumN {f : Nat → Int32} {s : Nat → Nat} : ∀ n, (∀ j, j < n → f j = nI (s j)) → f_sum f n = nI (f_sn s n)
  | 0, _ => rfl
  | n + 1, h => by
    have h1 := x_sumN n (fun j hj => h j (by omega))
    rw [f_sum, f_sn, h1, h n (by omega), nI_add]
theorem x_sn_le {s : Nat → Nat} {c : Nat} : ∀ n, (∀ j, j < n → s j ≤ c) → f_sn s n ≤ n * c
  | 0, _ => by simp [f_sn]
  | n + 1, h => by
    have h1 := x_sn_le n (fun j hj => h j (by omega))
    have h2 := h n (by omega)
    rw [f_sn, Nat.add_mul]
    omega
theorem x_sn_mono (s : Nat → Nat) : ∀ {i n : Nat}, i ≤ n → f_sn s i ≤ f_sn s n := by
  intro i n h
  induction n with
  | zero => have e : i = 0 := by omega
            subst e; exact Nat.le_refl _
  | succ n ih =>
    rcases Nat.lt_or_ge i (n + 1) with q | q
    · have := ih (by omega)
      rw [f_sn]
      omega
    · have e : i = n + 1 := by omega
      subst e; exact Nat.le_refl _
def f_qt (a0 : Nat) (s : Nat → Nat) (n j : Nat) : Nat := a0 * s j / f_sn s n
def f_rt (a0 : Nat) (s : Nat → Nat) (n j : Nat) : Nat := a0 * s j % f_sn s n
theorem x_qr (a0 : Nat) (s : Nat → Nat) (n : Nat) : ∀ i, f_sn s n * f_sn (f_qt a0 s n) i + f_sn (f_rt a0 s n) i = a0 * f_sn s i
  | 0 => by simp [f_sn]
  | i + 1 => by
    have h := x_qr a0 s n i
    have h2 : f_sn s n * f_qt a0 s n i + f_rt a0 s n i = a0 * s i := Nat.div_add_mod (a0 * s i) (f_sn s n)
    simp only [f_sn] at *
    rw [Nat.mul_add, Nat.mul_add]
    omega
theorem x_qsum {a0 : Nat} {s : Nat → Nat} {n i : Nat} (hS : 1 ≤ f_sn s n) (hi : i ≤ n) : f_sn (f_qt a0 s n) i ≤ a0 := by
  have h := x_qr a0 s n i
  have h2 : a0 * f_sn s i ≤ a0 * f_sn s n := Nat.mul_le_mul_left _ (x_sn_mono s hi)
  have h3 : f_sn s n * f_sn (f_qt a0 s n) i ≤ f_sn s n * a0 := by rw [Nat.mul_comm _ a0]; omega
  exact Nat.le_of_mul_le_mul_left h3 hS
theorem x_left {a0 : Nat} {s : Nat → Nat} {n : Nat} (hS : 1 ≤ f_sn s n) : a0 - f_sn (f_qt a0 s n) n ≤ n := by
  have h := x_qr a0 s n n
  have hr : f_sn (f_rt a0 s n) n ≤ n * f_sn s n := x_sn_le n (fun j _ => Nat.le_of_lt (Nat.mod_lt _ hS))
  have hq := x_qsum (a0 := a0) hS (Nat.le_refl n)
  have h3 : f_sn s n * (a0 - f_sn (f_qt a0 s n) n) ≤ f_sn s n * n := by
    rw [Nat.mul_sub, Nat.mul_comm _ a0, Nat.mul_comm _ n]
    omega
  exact Nat.le_of_mul_le_mul_left h3 hS
def f_Q (a0 : Nat) (s : Nat → Nat) (n : Nat) (g : Nat → Int32) : Nat → Nat → Int32 := fun i => f_fill (fun j => nI (f_qt a0 s n j)) g i
def f_R (a0 : Nat) (s : Nat → Nat) (n : Nat) (g : Nat → Int32) : Nat → Nat → Int32 := fun i => f_fill (fun j => nI (f_rt a0 s n j)) g i
/-- where i goes among the first t of the order -/
def f_pos (r : Nat → Int32) (ord : Nat → Nat) (i : Nat) : Nat → Nat
  | 0 => 0
  | t + 1 => if r (ord t) < r i then f_pos r ord i t else t + 1
def f_ord (r : Nat → Int32) : Nat → Nat → Nat
  | 0 => fun _ => 0
  | i + 1 => fun j => if j < f_pos r (f_ord r i) i i then f_ord r i j else if j = f_pos r (f_ord r i) i i then i else f_ord r i (j - 1)
theorem f_pos_le (r : Nat → Int32) (ord : Nat → Nat) (i : Nat) : ∀ t, f_pos r ord i t ≤ t
  | 0 => Nat.le_refl 0
  | t + 1 => by
    have h := f_pos_le r ord i t
    rw [f_pos]
    split <;> omega
theorem f_ord_lt (r : Nat → Int32) : ∀ i j, j < i → f_ord r i j < i
  | 0, j, h => absurd h (Nat.not_lt_zero j)
  | i + 1, j, h => by
    have hp := f_pos_le r (f_ord r i) i i
    simp only [f_ord]
    split
    · have := f_ord_lt r i j (by omega)
      omega
    · split
      · omega
      · have := f_ord_lt r i (j - 1) (by omega)
        omega
def f_O (r : Nat → Int32) (g : Nat → Int32) (i : Nat) : Nat → Int32 := f_fill (fun j => nI (f_ord r i j)) g i
/-- the order's row while i is on its way down, at t -/
def f_sh (r g : Nat → Int32) (i t : Nat) : Nat → Int32 := fun j => if t < j ∧ j ≤ i then nI (f_ord r i (j - 1)) else f_O r g i j
theorem f_sh_i (r g : Nat → Int32) (i : Nat) : f_sh r g i i = f_O r g i := by
  funext j
  simp only [f_sh]
  rw [if_neg (by omega)]
theorem f_sh_rd (r g : Nat → Int32) {i t : Nat} (h : t < i) : f_sh r g i (t + 1) t = nI (f_ord r i t) := by
  simp only [f_sh, f_O, f_fill]
  rw [if_neg (by omega), if_pos h]
theorem f_sh_s (r g : Nat → Int32) {i t : Nat} (h : t < i) : upd (f_sh r g i (t + 1)) (t + 1) (nI (f_ord r i t)) = f_sh r g i t := by
  funext j
  simp only [upd, f_sh]
  by_cases q : j = t + 1
  · subst q
    rw [if_pos rfl, if_pos (by omega)]
    rfl
  · rw [if_neg q]
    by_cases q2 : t + 1 < j ∧ j ≤ i
    · rw [if_pos q2, if_pos (by omega)]
    · rw [if_neg q2, if_neg (by omega)]
theorem f_sh_put (r g : Nat → Int32) {i t : Nat} (ht : t ≤ i) (h : f_pos r (f_ord r i) i i = t) : upd (f_sh r g i t) t (nI i) = f_O r g (i + 1) := by
  funext j
  simp only [upd, f_sh, f_O, f_fill, f_ord, h]
  by_cases q : j = t
  · subst q
    rw [if_pos rfl, if_pos (by omega), if_neg (by omega), if_pos rfl]
  · rw [if_neg q]
    by_cases q2 : t < j ∧ j ≤ i
    · rw [if_pos q2, if_pos (by omega), if_neg (by omega), if_neg q]
    · rw [if_neg q2]
      by_cases q3 : j < i
      · rw [if_pos q3, if_pos (by omega), if_pos (by omega)]
      · rw [if_neg q3, if_neg (by omega)]
theorem x_dec (n : Nat) : nI (n + 1) + Int32.ofInt (-1) = nI n := by
  rw [show Int32.ofInt (-1) = -1 from by decide]
  exact pk_m1 n
/-- the place of the greatest of 0 .. i, the first of equal ones -/
def f_bst (r : Nat → Int32) : Nat → Nat
  | 0 => 0
  | i + 1 => if r (f_bst r i) < r (i + 1) then i + 1 else f_bst r i
theorem f_bst_le (r : Nat → Int32) : ∀ i, f_bst r i ≤ i
  | 0 => Nat.le_refl 0
  | i + 1 => by
    have h := f_bst_le r i
    rw [f_bst]
    split <;> omega
/-- one unit more at the first i places of an order -/
def f_inc (p : Nat → Int32) (ord : Nat → Nat) : Nat → Nat → Int32
  | 0 => p
  | i + 1 => upd (f_inc p ord i) (ord i) (f_inc p ord i (ord i) + 1)
/-- the remainders after i rounds -/
def f_rr (r : Nat → Int32) (m : Nat) : Nat → Nat → Int32
  | 0 => r
  | i + 1 => upd (f_rr r m i) (f_bst (f_rr r m i) m) (-1)
theorem x_isA_off {a o : Nat} (h : x_isA a) (h2 : x_isS o) : o + 14 ≤ a := by
  rcases h with rfl | rfl <;> rcases h2 with rfl | rfl | rfl | ⟨j, hj, rfl⟩ <;> omega
theorem x_p_1of3 {d : xd} {k1 k2 k3 i : Nat} {f1 f2 f3 g1 : Nat → Int32} {u : Int32} (h : k1 ≠ k2) (h4 : k1 ≠ k3) (h1 : upd f1 i u = g1) : x_p (x_r (x_r (x_r d k1 f1) k2 f2) k3 f3) k1 i u = x_r (x_r (x_r d k1 g1) k2 f2) k3 f3 := by
  subst h1
  funext q
  by_cases a : q = k1
  · subst a; simp [x_p, x_r, h, h4]
  · simp [x_p, x_r, a]
theorem x_r_id2 (d : xd) (k1 k2 : Nat) : d = x_r (x_r d k1 (d k1)) k2 (d k2) := by
  rw [← x_r_id d k1, ← x_r_id d k2]

set_option maxHeartbeats 4000000 in
set_option maxRecDepth 100000 in
theorem c_X1_giveQuotas (l : Launch) (G : xG) (d : xd) (a o n a0 : Nat) (sh : Nat → Nat) (ha : x_isA a) (ho : x_isS o) (hn : d (o + 1) 0 = nI n) (h8 : n ≤ 8) (hs : ∀ j, j < n → d (o + 3) j = nI (sh j)) (hs9 : ∀ j, j < n → sh j ≤ 9) (hS : 1 ≤ f_sn sh n) (ha0 : a0 < 100000) : x_M G l yX1_giveQuotas wsX1_giveQuotas 2 0 0 [.ref (x_b G + a), .ref (x_b G + (o + 1)), .int (nI a0)] d (some (.int (nI (a0 - f_sn (f_qt a0 sh n) n)))) (x_r (x_r d (a + 1) (f_Q a0 sh n (d (a + 1)) n)) (a + 2) (f_R a0 sh n (d (a + 2)) n)) := by
  have hap := x_isA_off ha ho
  have hS9 := x_sn_le n hs9
  have iX1 : ∀ w ∈ u_ws RX1 TX1 3, w ∈ wsX1_giveQuotas := by decide +kernel
  have iX5 : ∀ w ∈ u_ws RX5 TX5 8, w ∈ wsX1_giveQuotas := by decide +kernel
  refine x_start (cc := cX1_giveQuotas) (maxL := 7) (ret := (some .int)) (own := RX1) (by decide) rfl rfl (Nat.le_of_ble_eq_true rfl) (lst := [(0, .ref (x_b G + a)), (1, .ref (x_b G + (o + 1))), (2, .int (nI a0))]) rfl ?_
  intro p e s m args below meth c C hr hlocks
  refine a_aload_n C dX1_giveQuotas_0 1 rfl ?_
  refine a_aload_n C dX1_giveQuotas_1 1 rfl ?_
  refine a_getR C (k := (o + 1)) iX5 (x_sS1 ho) rfl (j := 2) rfl (by decide) (by decide +kernel) dX1_giveQuotas_2 ?_
  refine a_callV C (k := (o + 1)) (As := [.ref (x_b G + (o + 3))]) (rest := []) (c_X5_sumOf l G d o n ho hn h8 (o + 3) (x_sS3 ho)) (cwV 1 C.1.2.2.2.2 gX1_giveQuotas_X5_sumOf rfl rfl rfl (by decide +kernel) ⟨Nat.le_of_ble_eq_true rfl, Nat.le_of_ble_eq_true rfl⟩) (x_sS1 ho) (q := (RX5, TX5, 8)) rfl rfl rfl rfl (Nat.le_of_ble_eq_true rfl) dX1_giveQuotas_5 ⟨Nat.le_of_ble_eq_true rfl, Nat.le_of_ble_eq_true rfl⟩ ?_
  refine a_top (y := (nI (f_sn sh n))) (x_sumN n hs) ?_
  refine a_istore_n C dX1_giveQuotas_8 (by decide) (lst2 := [(3, .int (nI (f_sn sh n))), (0, .ref (x_b G + a)), (1, .ref (x_b G + (o + 1))), (2, .int (nI a0))]) rfl ?_
  refine a_iload_n C dX1_giveQuotas_9 0 rfl ?_
  refine a_iconst C dX1_giveQuotas_10 (v := 1) (by decide) ?_
  refine a_icmp_ge C dX1_giveQuotas_11 (tgt := 16) (by decide) (fun h11 => ?_) (fun h => absurd ((nI_leI (a := 1) (by omega) (by omega)).mpr hS) h)
  refine a_iload_n C dX1_giveQuotas_16 3 rfl ?_
  refine a_istore C dX1_giveQuotas_17 (by decide) (lst2 := [(4, .int (nI a0)), (3, .int (nI (f_sn sh n))), (0, .ref (x_b G + a)), (1, .ref (x_b G + (o + 1))), (2, .int (nI a0))]) rfl ?_
  refine a_iconst C dX1_giveQuotas_19 (v := 0) (by decide) ?_
  refine a_istore C dX1_giveQuotas_20 (by decide) (lst2 := [(5, .int 0), (4, .int (nI a0)), (3, .int (nI (f_sn sh n))), (0, .ref (x_b G + a)), (1, .ref (x_b G + (o + 1))), (2, .int (nI a0))]) rfl ?_
  have L22 : ∀ (j i : Nat), i ≤ n → n < i + j → Ab G p l e (x_rm 2 0 0) s m args below meth c 7 0 0 (MQ below (x_Q G (some (.int (nI (a0 - f_sn (f_qt a0 sh n) n)))) (x_r (x_r d (a + 1) (f_Q a0 sh n (d (a + 1)) n)) (a + 2) (f_R a0 sh n (d (a + 2)) n))) args s 0 0 (x_A G)) 22 [(5, .int (nI i)), (4, .int (nI (a0 - f_sn (f_qt a0 sh n) i))), (3, .int (nI (f_sn sh n))), (0, .ref (x_b G + a)), (1, .ref (x_b G + (o + 1))), (2, .int (nI a0))] [] (x_r (x_r d (a + 1) (f_Q a0 sh n (d (a + 1)) i)) (a + 2) (f_R a0 sh n (d (a + 2)) i)) := by
    intro j
    induction j with
    | zero => intro i h1 h2; exact absurd h2 (by omega)
    | succ j ih =>
      intro i hi hj 
      refine a_iload C dX1_giveQuotas_22 0 rfl ?_
      refine a_aload_n C dX1_giveQuotas_24 4 rfl ?_
      refine a_getI C (k := (o + 1)) iX5 (x_sS1 ho) rfl (j := 0) rfl (by decide) (by decide +kernel) dX1_giveQuotas_25 ?_
      refine a_top (y := (d (o + 1) 0)) (by rw [x_r_ne2 (by omega), x_r_ne2 (by omega)]) ?_
      refine a_top (y := (nI n)) hn ?_
      refine a_icmp_ge C dX1_giveQuotas_28 (tgt := 82) (by decide) (fun h28 => ?_) (fun h28 => ?_)
      · skip
        have e := x_ge h28 hi (by omega)
        subst e
        refine a_iload C dX1_giveQuotas_82 1 rfl ?_
        exact a_iret C hlocks hr dX1_giveQuotas_84 rfl rfl
      · skip
        have hlt := x_nge h28 hi
        have hq := x_qsum (a0 := a0) hS (show i + 1 ≤ n by omega)
        have hsi := hs9 i hlt
        have hp : a0 * sh i ≤ a0 * 9 := Nat.mul_le_mul_left _ hsi
        rw [f_sn] at hq
        refine a_iload_n C dX1_giveQuotas_31 5 rfl ?_
        refine a_aload_n C dX1_giveQuotas_32 4 rfl ?_
        refine a_getR C (k := (o + 1)) iX5 (x_sS1 ho) rfl (j := 2) rfl (by decide) (by decide +kernel) dX1_giveQuotas_33 ?_
        refine a_iload C dX1_giveQuotas_36 0 rfl ?_
        refine a_ialdN C (k := (o + 3)) (x_sS3 ho) (i := i) rfl (by omega) (by first | decide | omega) dX1_giveQuotas_38 ?_
        refine a_top (y := (d (o + 3) i)) (by rw [x_r_ne2 (by omega), x_r_ne2 (by omega)]) ?_
        refine a_top (y := (nI (sh i))) (hs i hlt) ?_
        refine a_imul C dX1_giveQuotas_39 ?_
        refine a_top (y := (nI (a0 * sh i))) (pk_mul _ _) ?_
        refine a_istore C dX1_giveQuotas_40 (by decide) (lst2 := [(6, .int (nI (a0 * sh i))), (5, .int (nI i)), (4, .int (nI (a0 - f_sn (f_qt a0 sh n) i))), (3, .int (nI (f_sn sh n))), (0, .ref (x_b G + a)), (1, .ref (x_b G + (o + 1))), (2, .int (nI a0))]) rfl ?_
        refine a_aload_n C dX1_giveQuotas_42 4 rfl ?_
        refine a_getR C (k := a) iX1 (x_sA0 ha) rfl (j := 0) rfl (by decide) (by decide +kernel) dX1_giveQuotas_43 ?_
        refine a_iload C dX1_giveQuotas_46 1 rfl ?_
        refine a_iload C dX1_giveQuotas_48 0 rfl ?_
        refine a_iload_n C dX1_giveQuotas_50 3 rfl ?_
        refine a_idiv C dX1_giveQuotas_51 (nI_ne0 (by omega) (by omega)) ?_
        refine a_top (y := (nI (f_qt a0 sh n i))) (pk_div (by omega) (by omega) (by omega)) ?_
        refine a_iastN C (k := (a + 1)) (x_sA1 ha) (i := i) rfl (by omega) (by first | decide | omega) dX1_giveQuotas_52 ?_
        refine a_aload_n C dX1_giveQuotas_53 4 rfl ?_
        refine a_getR C (k := a) iX1 (x_sA0 ha) rfl (j := 1) rfl (by decide) (by decide +kernel) dX1_giveQuotas_54 ?_
        refine a_iload C dX1_giveQuotas_57 1 rfl ?_
        refine a_iload C dX1_giveQuotas_59 0 rfl ?_
        refine a_iload_n C dX1_giveQuotas_61 3 rfl ?_
        refine a_irem C dX1_giveQuotas_62 (nI_ne0 (by omega) (by omega)) ?_
        refine a_top (y := (nI (f_rt a0 sh n i))) (pk_rem (by omega) (by omega) (by omega)) ?_
        refine a_iastN C (k := (a + 2)) (x_sA2 ha) (i := i) rfl (by omega) (by first | decide | omega) dX1_giveQuotas_63 ?_
        refine a_iload C dX1_giveQuotas_64 2 rfl ?_
        refine a_aload_n C dX1_giveQuotas_66 4 rfl ?_
        refine a_getR C (k := a) iX1 (x_sA0 ha) rfl (j := 0) rfl (by decide) (by decide +kernel) dX1_giveQuotas_67 ?_
        refine a_iload C dX1_giveQuotas_70 1 rfl ?_
        refine a_ialdN C (k := (a + 1)) (x_sA1 ha) (i := i) rfl (by omega) (by first | decide | omega) dX1_giveQuotas_72 ?_
        refine a_top (y := ((nI (f_qt a0 sh n i)))) (by rw [x_p_ne (by omega), x_p_at]) ?_
        refine a_top (y := (nI (f_qt a0 sh n i))) rfl ?_
        refine a_isub C dX1_giveQuotas_73 ?_
        refine a_top (y := (nI (a0 - f_sn (f_qt a0 sh n) i - f_qt a0 sh n i))) (pk_sub (by omega)) ?_
        refine a_istore C dX1_giveQuotas_74 (by decide) (lst2 := [(4, .int (nI (a0 - f_sn (f_qt a0 sh n) i - f_qt a0 sh n i))), (6, .int (nI (a0 * sh i))), (5, .int (nI i)), (3, .int (nI (f_sn sh n))), (0, .ref (x_b G + a)), (1, .ref (x_b G + (o + 1))), (2, .int (nI a0))]) rfl ?_
        refine a_iinc C dX1_giveQuotas_76 2 rfl (v := (nI (i + 1))) (x_inc i) (by decide) (lst2 := [(5, .int (nI (i + 1))), (4, .int (nI (a0 - f_sn (f_qt a0 sh n) i - f_qt a0 sh n i))), (6, .int (nI (a0 * sh i))), (3, .int (nI (f_sn sh n))), (0, .ref (x_b G + a)), (1, .ref (x_b G + (o + 1))), (2, .int (nI a0))]) rfl ?_
        refine a_goto C dX1_giveQuotas_79 (tgt := 22) (by decide) ?_
        refine a_sub (lst2 := [(5, .int (nI (i + 1))), (4, .int (nI (a0 - f_sn (f_qt a0 sh n) i - f_qt a0 sh n i))), (3, .int (nI (f_sn sh n))), (0, .ref (x_b G + a)), (1, .ref (x_b G + (o + 1))), (2, .int (nI a0))]) [0, 1, 3, 4, 5, 6] rfl ?_
        refine a_to (lst2 := [(5, .int (nI ((i + 1)))), (4, .int (nI (a0 - f_sn (f_qt a0 sh n) ((i + 1))))), (3, .int (nI (f_sn sh n))), (0, .ref (x_b G + a)), (1, .ref (x_b G + (o + 1))), (2, .int (nI a0))]) (st2 := []) (d2 := x_r (x_r d (a + 1) (f_Q a0 sh n (d (a + 1)) ((i + 1)))) (a + 2) (f_R a0 sh n (d (a + 2)) ((i + 1)))) (by rw [f_sn, Nat.sub_add_eq]) rfl (x_two (by omega) (f_fill_s _ _ i) (f_fill_s _ _ i)).symm ?_
        exact ih (i + 1) (by omega) (by omega) 
  refine a_sub (lst2 := [(5, .int 0), (4, .int (nI a0)), (3, .int (nI (f_sn sh n))), (0, .ref (x_b G + a)), (1, .ref (x_b G + (o + 1))), (2, .int (nI a0))]) [0, 1, 2, 3, 4, 5] rfl ?_
  refine a_toD (d2 := x_r (x_r d (a + 1) (f_Q a0 sh n (d (a + 1)) 0)) (a + 2) (f_R a0 sh n (d (a + 2)) 0)) (by unfold f_Q f_R; rw [f_fill_0, f_fill_0]; exact x_r_id2 d (a + 1) (a + 2)) ?_
  exact L22 (n + 1) 0 (by omega) (by omega)

set_option maxHeartbeats 4000000 in
set_option maxRecDepth 100000 in
theorem c_X1_giveQuotas_0 (l : Launch) (G : xG) (d : xd) (a o : Nat) (ha : x_isA a) (ho : x_isS o) (hn : d (o + 1) 0 = nI 0) (x : Int32) : x_M G l yX1_giveQuotas wsX1_giveQuotas 2 0 0 [.ref (x_b G + a), .ref (x_b G + (o + 1)), .int x] d (some (.int 0)) d := by
  have hap := x_isA_off ha ho
  have iX5 : ∀ w ∈ u_ws RX5 TX5 8, w ∈ wsX1_giveQuotas := by decide +kernel
  refine x_start (cc := cX1_giveQuotas) (maxL := 7) (ret := (some .int)) (own := RX1) (by decide) rfl rfl (Nat.le_of_ble_eq_true rfl) (lst := [(0, .ref (x_b G + a)), (1, .ref (x_b G + (o + 1))), (2, .int x)]) rfl ?_
  intro p e s m args below meth c C hr hlocks
  refine a_aload_n C dX1_giveQuotas_0 1 rfl ?_
  refine a_aload_n C dX1_giveQuotas_1 1 rfl ?_
  refine a_getR C (k := (o + 1)) iX5 (x_sS1 ho) rfl (j := 2) rfl (by decide) (by decide +kernel) dX1_giveQuotas_2 ?_
  refine a_callV C (k := (o + 1)) (As := [.ref (x_b G + (o + 3))]) (rest := []) (c_X5_sumOf l G d o 0 ho hn (by omega) (o + 3) (x_sS3 ho)) (cwV 1 C.1.2.2.2.2 gX1_giveQuotas_X5_sumOf rfl rfl rfl (by decide +kernel) ⟨Nat.le_of_ble_eq_true rfl, Nat.le_of_ble_eq_true rfl⟩) (x_sS1 ho) (q := (RX5, TX5, 8)) rfl rfl rfl rfl (Nat.le_of_ble_eq_true rfl) dX1_giveQuotas_5 ⟨Nat.le_of_ble_eq_true rfl, Nat.le_of_ble_eq_true rfl⟩ ?_
  refine a_istore_n C dX1_giveQuotas_8 (by decide) (lst2 := [(3, .int 0), (0, .ref (x_b G + a)), (1, .ref (x_b G + (o + 1))), (2, .int x)]) rfl ?_
  refine a_iload_n C dX1_giveQuotas_9 0 rfl ?_
  refine a_iconst C dX1_giveQuotas_10 (v := 1) (by decide) ?_
  refine a_icmp_ge C dX1_giveQuotas_11 (tgt := 16) (by decide) (fun h => absurd h (by decide)) (fun _ => ?_)
  refine a_iconst C dX1_giveQuotas_14 (v := 0) (by decide) ?_
  exact a_iret C hlocks hr dX1_giveQuotas_15 rfl rfl

set_option maxHeartbeats 4000000 in
set_option maxRecDepth 100000 in
theorem c_X1_sortByRemainder (l : Launch) (G : xG) (d : xd) (a n : Nat) (ha : x_isA a) (h8 : n ≤ 8) : x_M G l yX1_sortByRemainder wsX1_sortByRemainder 1 0 0 [.ref (x_b G + a), .int (nI n)] d none (x_r d (a + 3) (f_O (d (a + 2)) (d (a + 3)) n)) := by
  have iX1 : ∀ w ∈ u_ws RX1 TX1 3, w ∈ wsX1_sortByRemainder := by decide +kernel
  refine x_start (cc := cX1_sortByRemainder) (maxL := 4) (ret := none) (own := RX1) (by decide) rfl rfl (Nat.le_of_ble_eq_true rfl) (lst := [(0, .ref (x_b G + a)), (1, .int (nI n))]) rfl ?_
  intro p e s m args below meth c C hr hlocks
  refine a_iconst C dX1_sortByRemainder_0 (v := 0) (by decide) ?_
  refine a_istore_n C dX1_sortByRemainder_1 (by decide) (lst2 := [(2, .int 0), (0, .ref (x_b G + a)), (1, .int (nI n))]) rfl ?_
  have L2 : ∀ (j i : Nat), i ≤ n → n < i + j → Ab G p l e (x_rm 1 0 0) s m args below meth c 4 0 0 (MQ below (x_Q G none (x_r d (a + 3) (f_O (d (a + 2)) (d (a + 3)) n))) args s 0 0 (x_A G)) 2 [(2, .int (nI i)), (0, .ref (x_b G + a)), (1, .int (nI n))] [] (x_r d (a + 3) (f_O (d (a + 2)) (d (a + 3)) i)) := by
    intro j
    induction j with
    | zero => intro i h1 h2; exact absurd h2 (by omega)
    | succ j iho =>
      intro i hin hj 
      refine a_iload_n C dX1_sortByRemainder_2 0 rfl ?_
      refine a_iload_n C dX1_sortByRemainder_3 2 rfl ?_
      refine a_icmp_ge C dX1_sortByRemainder_4 (tgt := 68) (by decide) (fun h4 => ?_) (fun h4 => ?_)
      · skip
        have e := x_ge h4 hin (by omega)
        subst e
        exact a_vret C hlocks hr dX1_sortByRemainder_68 rfl
      · skip
        have hlt := x_nge h4 hin
        refine a_iload_n C dX1_sortByRemainder_7 0 rfl ?_
        refine a_istore_n C dX1_sortByRemainder_8 (by decide) (lst2 := [(3, .int (nI i)), (2, .int (nI i)), (0, .ref (x_b G + a)), (1, .int (nI n))]) rfl ?_
        have L9 : ∀ (t : Nat), t ≤ i → f_pos (d (a + 2)) (f_ord (d (a + 2)) i) i t = f_pos (d (a + 2)) (f_ord (d (a + 2)) i) i i → Ab G p l e (x_rm 1 0 0) s m args below meth c 4 0 0 (MQ below (x_Q G none (x_r d (a + 3) (f_O (d (a + 2)) (d (a + 3)) n))) args s 0 0 (x_A G)) 9 [(3, .int (nI t)), (2, .int (nI i)), (0, .ref (x_b G + a)), (1, .int (nI n))] [] (x_r d (a + 3) (f_sh (d (a + 2)) (d (a + 3)) i t)) := by
          intro t
          induction t with
          | zero =>
            intro ht hp
            refine a_iload_n C dX1_sortByRemainder_9 0 rfl ?_
            refine a_if_le C dX1_sortByRemainder_10 (tgt := 55) (by decide) (fun h10 => ?_) (fun h => absurd (show nI 0 ≤ 0 by decide) h)
            refine a_aload_n C dX1_sortByRemainder_55 2 rfl ?_
            refine a_getR C (k := a) iX1 (x_sA0 ha) rfl (j := 2) rfl (by decide) (by decide +kernel) dX1_sortByRemainder_56 ?_
            refine a_iload_n C dX1_sortByRemainder_59 0 rfl ?_
            refine a_iload_n C dX1_sortByRemainder_60 1 rfl ?_
            refine a_iastN C (k := (a + 3)) (x_sA3 ha) (i := 0) rfl (by decide) (by first | decide | omega) dX1_sortByRemainder_61 ?_
            refine a_iinc C dX1_sortByRemainder_62 1 rfl (v := (nI (i + 1))) (x_inc i) (by decide) (lst2 := [(2, .int (nI (i + 1))), (3, .int (nI 0)), (0, .ref (x_b G + a)), (1, .int (nI n))]) rfl ?_
            refine a_goto C dX1_sortByRemainder_65 (tgt := 2) (by decide) ?_
            refine a_sub (lst2 := [(2, .int (nI (i + 1))), (0, .ref (x_b G + a)), (1, .int (nI n))]) [0, 2, 3] rfl ?_
            refine a_to (lst2 := [(2, .int (nI ((i + 1)))), (0, .ref (x_b G + a)), (1, .int (nI n))]) (st2 := []) (d2 := x_r d (a + 3) (f_O (d (a + 2)) (d (a + 3)) ((i + 1)))) rfl rfl (x_p_r2 (f_sh_put (d (a + 2)) (d (a + 3)) (t := 0) (by omega) (hp.symm.trans rfl))).symm ?_
            exact iho (i + 1) (by omega) (by omega) 
          | succ t ih =>
            intro ht hp
            have hol := f_ord_lt (d (a + 2)) i t (by omega)
            refine a_iload_n C dX1_sortByRemainder_9 0 rfl ?_
            refine a_if_le C dX1_sortByRemainder_10 (tgt := 55) (by decide) (fun h => absurd h (nI_nle (by omega) (by omega))) (fun h10 => ?_)
            refine a_aload_n C dX1_sortByRemainder_13 2 rfl ?_
            refine a_getR C (k := a) iX1 (x_sA0 ha) rfl (j := 1) rfl (by decide) (by decide +kernel) dX1_sortByRemainder_14 ?_
            refine a_aload_n C dX1_sortByRemainder_17 2 rfl ?_
            refine a_getR C (k := a) iX1 (x_sA0 ha) rfl (j := 2) rfl (by decide) (by decide +kernel) dX1_sortByRemainder_18 ?_
            refine a_iload_n C dX1_sortByRemainder_21 0 rfl ?_
            refine a_iconst C dX1_sortByRemainder_22 (v := 1) (by decide) ?_
            refine a_isub C dX1_sortByRemainder_23 ?_
            refine a_top (y := (nI t)) (nI_pred t) ?_
            refine a_ialdN C (k := (a + 3)) (x_sA3 ha) (i := t) rfl (by omega) (by first | decide | omega) dX1_sortByRemainder_24 ?_
            refine a_top (y := (nI (f_ord (d (a + 2)) i t))) (by rw [x_r_same, f_sh_rd _ _ (by omega)]) ?_
            refine a_ialdN C (k := (a + 2)) (x_sA2 ha) (i := f_ord (d (a + 2)) i t) rfl (by omega) (by first | decide | omega) dX1_sortByRemainder_25 ?_
            refine a_top (y := (d (a + 2) (f_ord (d (a + 2)) i t))) (by rw [x_r_ne2 (by omega)]) ?_
            refine a_aload_n C dX1_sortByRemainder_26 2 rfl ?_
            refine a_getR C (k := a) iX1 (x_sA0 ha) rfl (j := 1) rfl (by decide) (by decide +kernel) dX1_sortByRemainder_27 ?_
            refine a_iload_n C dX1_sortByRemainder_30 1 rfl ?_
            refine a_ialdN C (k := (a + 2)) (x_sA2 ha) (i := i) rfl (by omega) (by first | decide | omega) dX1_sortByRemainder_31 ?_
            refine a_top (y := (d (a + 2) i)) (by rw [x_r_ne2 (by omega)]) ?_
            refine a_icmp_ge C dX1_sortByRemainder_32 (tgt := 55) (by decide) (fun h32 => ?_) (fun h32 => ?_)
            · skip
              refine a_aload_n C dX1_sortByRemainder_55 2 rfl ?_
              refine a_getR C (k := a) iX1 (x_sA0 ha) rfl (j := 2) rfl (by decide) (by decide +kernel) dX1_sortByRemainder_56 ?_
              refine a_iload_n C dX1_sortByRemainder_59 0 rfl ?_
              refine a_iload_n C dX1_sortByRemainder_60 1 rfl ?_
              refine a_iastN C (k := (a + 3)) (x_sA3 ha) (i := t + 1) rfl (by omega) (by first | decide | omega) dX1_sortByRemainder_61 ?_
              refine a_iinc C dX1_sortByRemainder_62 1 rfl (v := (nI (i + 1))) (x_inc i) (by decide) (lst2 := [(2, .int (nI (i + 1))), (3, .int (nI (t + 1))), (0, .ref (x_b G + a)), (1, .int (nI n))]) rfl ?_
              refine a_goto C dX1_sortByRemainder_65 (tgt := 2) (by decide) ?_
              refine a_sub (lst2 := [(2, .int (nI (i + 1))), (0, .ref (x_b G + a)), (1, .int (nI n))]) [0, 2, 3] rfl ?_
              refine a_to (lst2 := [(2, .int (nI ((i + 1)))), (0, .ref (x_b G + a)), (1, .int (nI n))]) (st2 := []) (d2 := x_r d (a + 3) (f_O (d (a + 2)) (d (a + 3)) ((i + 1)))) rfl rfl (x_p_r2 (f_sh_put (d (a + 2)) (d (a + 3)) (t := t + 1) (by omega) (hp.symm.trans (by rw [f_pos, if_neg (Int32.not_lt.mpr h32)])))).symm ?_
              exact iho (i + 1) (by omega) (by omega) 
            · skip
              refine a_aload_n C dX1_sortByRemainder_35 2 rfl ?_
              refine a_getR C (k := a) iX1 (x_sA0 ha) rfl (j := 2) rfl (by decide) (by decide +kernel) dX1_sortByRemainder_36 ?_
              refine a_iload_n C dX1_sortByRemainder_39 0 rfl ?_
              refine a_aload_n C dX1_sortByRemainder_40 2 rfl ?_
              refine a_getR C (k := a) iX1 (x_sA0 ha) rfl (j := 2) rfl (by decide) (by decide +kernel) dX1_sortByRemainder_41 ?_
              refine a_iload_n C dX1_sortByRemainder_44 0 rfl ?_
              refine a_iconst C dX1_sortByRemainder_45 (v := 1) (by decide) ?_
              refine a_isub C dX1_sortByRemainder_46 ?_
              refine a_top (y := (nI t)) (nI_pred t) ?_
              refine a_ialdN C (k := (a + 3)) (x_sA3 ha) (i := t) rfl (by omega) (by first | decide | omega) dX1_sortByRemainder_47 ?_
              refine a_top (y := (nI (f_ord (d (a + 2)) i t))) (by rw [x_r_same, f_sh_rd _ _ (by omega)]) ?_
              refine a_iastN C (k := (a + 3)) (x_sA3 ha) (i := t + 1) rfl (by omega) (by first | decide | omega) dX1_sortByRemainder_48 ?_
              refine a_iinc C dX1_sortByRemainder_49 0 rfl (v := (nI t)) (x_dec t) (by decide) (lst2 := [(3, .int (nI t)), (2, .int (nI i)), (0, .ref (x_b G + a)), (1, .int (nI n))]) rfl ?_
              refine a_goto C dX1_sortByRemainder_52 (tgt := 9) (by decide) ?_
              refine a_sub (lst2 := [(3, .int (nI t)), (2, .int (nI i)), (0, .ref (x_b G + a)), (1, .int (nI n))]) [0, 1, 2, 3] rfl ?_
              refine a_to (lst2 := [(3, .int (nI t)), (2, .int (nI i)), (0, .ref (x_b G + a)), (1, .int (nI n))]) (st2 := []) (d2 := x_r d (a + 3) (f_sh (d (a + 2)) (d (a + 3)) i t)) rfl rfl (x_p_r2 (f_sh_s (d (a + 2)) (d (a + 3)) (by omega))).symm ?_
              exact ih (by omega) (by rw [← hp, f_pos, if_pos (Int32.not_le.mp h32)])
        refine a_sub (lst2 := [(3, .int (nI i)), (2, .int (nI i)), (0, .ref (x_b G + a)), (1, .int (nI n))]) [0, 1, 2, 3] rfl ?_
        refine a_to (lst2 := [(3, .int (nI i)), (2, .int (nI i)), (0, .ref (x_b G + a)), (1, .int (nI n))]) (st2 := []) (d2 := x_r d (a + 3) (f_sh (d (a + 2)) (d (a + 3)) i i)) rfl rfl (congrArg (x_r d (a + 3)) (f_sh_i (d (a + 2)) (d (a + 3)) i)) ?_
        exact L9 i (Nat.le_refl i) rfl
  refine a_sub (lst2 := [(2, .int 0), (0, .ref (x_b G + a)), (1, .int (nI n))]) [0, 1, 2] rfl ?_
  refine a_toD (d2 := x_r d (a + 3) (f_O (d (a + 2)) (d (a + 3)) 0)) (by unfold f_O; rw [f_fill_0]; exact x_r_id d (a + 3)) ?_
  exact L2 (n + 1) 0 (by omega) (by omega)

set_option maxHeartbeats 4000000 in
set_option maxRecDepth 100000 in
theorem c_X1_greatestRemainder (l : Launch) (G : xG) (d : xd) (a mm : Nat) (ha : x_isA a) (h8 : mm < 8) : x_M G l yX1_greatestRemainder wsX1_greatestRemainder 1 0 0 [.ref (x_b G + a), .int (nI (mm + 1))] d (some (.int (nI (f_bst (d (a + 2)) mm)))) d := by
  have iX1 : ∀ w ∈ u_ws RX1 TX1 3, w ∈ wsX1_greatestRemainder := by decide +kernel
  refine x_start (cc := cX1_greatestRemainder) (maxL := 4) (ret := (some .int)) (own := RX1) (by decide) rfl rfl (Nat.le_of_ble_eq_true rfl) (lst := [(0, .ref (x_b G + a)), (1, .int (nI (mm + 1)))]) rfl ?_
  intro p e s m args below meth c C hr hlocks
  refine a_iconst C dX1_greatestRemainder_0 (v := 0) (by decide) ?_
  refine a_istore_n C dX1_greatestRemainder_1 (by decide) (lst2 := [(2, .int 0), (0, .ref (x_b G + a)), (1, .int (nI (mm + 1)))]) rfl ?_
  refine a_iconst C dX1_greatestRemainder_2 (v := 1) (by decide) ?_
  refine a_istore_n C dX1_greatestRemainder_3 (by decide) (lst2 := [(3, .int 1), (2, .int 0), (0, .ref (x_b G + a)), (1, .int (nI (mm + 1)))]) rfl ?_
  have L4 : ∀ (j i : Nat), i ≤ mm → mm < i + j → Ab G p l e (x_rm 1 0 0) s m args below meth c 4 0 0 (MQ below (x_Q G (some (.int (nI (f_bst (d (a + 2)) mm)))) d) args s 0 0 (x_A G)) 4 [(3, .int (nI (i + 1))), (2, .int (nI (f_bst (d (a + 2)) i))), (0, .ref (x_b G + a)), (1, .int (nI (mm + 1)))] [] d := by
    intro j
    induction j with
    | zero => intro i h1 h2; exact absurd h2 (by omega)
    | succ j ih =>
      intro i hi hj 
      have hb := f_bst_le (d (a + 2)) i
      refine a_iload_n C dX1_greatestRemainder_4 0 rfl ?_
      refine a_iload_n C dX1_greatestRemainder_5 3 rfl ?_
      refine a_icmp_ge C dX1_greatestRemainder_6 (tgt := 32) (by decide) (fun h6 => ?_) (fun h6 => ?_)
      · skip
        have e : i = mm := by
          have := (nI_leI (by omega) (by omega)).mp h6
          omega
        subst e
        refine a_iload_n C dX1_greatestRemainder_32 1 rfl ?_
        exact a_iret C hlocks hr dX1_greatestRemainder_33 rfl rfl
      · skip
        have hlt : i < mm := by
          rcases Nat.lt_or_ge i mm with z | z
          · exact z
          · exact absurd ((nI_leI (by omega) (by omega)).mpr (by omega)) h6
        refine a_aload_n C dX1_greatestRemainder_9 2 rfl ?_
        refine a_getR C (k := a) iX1 (x_sA0 ha) rfl (j := 1) rfl (by decide) (by decide +kernel) dX1_greatestRemainder_10 ?_
        refine a_iload_n C dX1_greatestRemainder_13 0 rfl ?_
        refine a_ialdN C (k := (a + 2)) (x_sA2 ha) (i := i + 1) rfl (by omega) (by first | decide | omega) dX1_greatestRemainder_14 ?_
        refine a_aload_n C dX1_greatestRemainder_15 2 rfl ?_
        refine a_getR C (k := a) iX1 (x_sA0 ha) rfl (j := 1) rfl (by decide) (by decide +kernel) dX1_greatestRemainder_16 ?_
        refine a_iload_n C dX1_greatestRemainder_19 1 rfl ?_
        refine a_ialdN C (k := (a + 2)) (x_sA2 ha) (i := f_bst (d (a + 2)) i) rfl (by omega) (by first | decide | omega) dX1_greatestRemainder_20 ?_
        refine a_icmp_le C dX1_greatestRemainder_21 (tgt := 26) (by decide) (fun h21 => ?_) (fun h21 => ?_)
        · skip
          refine a_iinc C dX1_greatestRemainder_26 0 rfl (v := (nI (i + 1 + 1))) (x_inc (i + 1)) (by decide) (lst2 := [(3, .int (nI (i + 1 + 1))), (2, .int (nI (f_bst (d (a + 2)) i))), (0, .ref (x_b G + a)), (1, .int (nI (mm + 1)))]) rfl ?_
          refine a_goto C dX1_greatestRemainder_29 (tgt := 4) (by decide) ?_
          refine a_sub (lst2 := [(3, .int (nI (i + 1 + 1))), (2, .int (nI (f_bst (d (a + 2)) i))), (0, .ref (x_b G + a)), (1, .int (nI (mm + 1)))]) [0, 1, 2, 3] rfl ?_
          refine a_to (lst2 := [(3, .int (nI (((i + 1)) + 1))), (2, .int (nI (f_bst (d (a + 2)) ((i + 1))))), (0, .ref (x_b G + a)), (1, .int (nI (mm + 1)))]) (st2 := []) (d2 := d) (by rw [f_bst, if_neg (Int32.not_lt.mpr h21)]) rfl rfl ?_
          exact ih (i + 1) (by omega) (by omega) 
        · skip
          refine a_iload_n C dX1_greatestRemainder_24 0 rfl ?_
          refine a_istore_n C dX1_greatestRemainder_25 (by decide) (lst2 := [(2, .int (nI (i + 1))), (3, .int (nI (i + 1))), (0, .ref (x_b G + a)), (1, .int (nI (mm + 1)))]) rfl ?_
          refine a_iinc C dX1_greatestRemainder_26 1 rfl (v := (nI (i + 1 + 1))) (x_inc (i + 1)) (by decide) (lst2 := [(3, .int (nI (i + 1 + 1))), (2, .int (nI (i + 1))), (0, .ref (x_b G + a)), (1, .int (nI (mm + 1)))]) rfl ?_
          refine a_goto C dX1_greatestRemainder_29 (tgt := 4) (by decide) ?_
          refine a_sub (lst2 := [(3, .int (nI (i + 1 + 1))), (2, .int (nI (i + 1))), (0, .ref (x_b G + a)), (1, .int (nI (mm + 1)))]) [0, 1, 2, 3] rfl ?_
          refine a_to (lst2 := [(3, .int (nI (((i + 1)) + 1))), (2, .int (nI (f_bst (d (a + 2)) ((i + 1))))), (0, .ref (x_b G + a)), (1, .int (nI (mm + 1)))]) (st2 := []) (d2 := d) (by rw [f_bst, if_pos (Int32.not_le.mp h21)]) rfl rfl ?_
          exact ih (i + 1) (by omega) (by omega) 
  refine a_sub (lst2 := [(3, .int 1), (2, .int 0), (0, .ref (x_b G + a)), (1, .int (nI (mm + 1)))]) [0, 1, 2, 3] rfl ?_
  exact L4 (mm + 1) 0 (by omega) (by omega) 

set_option maxHeartbeats 4000000 in
set_option maxRecDepth 100000 in
theorem c_X1_divideBySorting (l : Launch) (G : xG) (d : xd) (a o n a0 : Nat) (sh : Nat → Nat) (ha : x_isA a) (ho : x_isS o) (hn : d (o + 1) 0 = nI n) (h8 : n ≤ 8) (hs : ∀ j, j < n → d (o + 3) j = nI (sh j)) (hs9 : ∀ j, j < n → sh j ≤ 9) (hS : 1 ≤ f_sn sh n) (ha0 : a0 < 100000) : x_M G l yX1_divideBySorting wsX1_divideBySorting 3 0 0 [.ref (x_b G + a), .ref (x_b G + (o + 1)), .int (nI a0)] d none (x_r (x_r (x_r d (a + 1) (f_inc (f_Q a0 sh n (d (a + 1)) n) (f_ord (f_R a0 sh n (d (a + 2)) n) n) ((a0 - f_sn (f_qt a0 sh n) n)))) (a + 2) (f_R a0 sh n (d (a + 2)) n)) (a + 3) (f_O (f_R a0 sh n (d (a + 2)) n) (d (a + 3)) n)) := by
  have hap := x_isA_off ha ho
  have hL := x_left (a0 := a0) hS
  have iX1 : ∀ w ∈ u_ws RX1 TX1 3, w ∈ wsX1_divideBySorting := by decide +kernel
  have iX5 : ∀ w ∈ u_ws RX5 TX5 8, w ∈ wsX1_divideBySorting := by decide +kernel
  refine x_start (cc := cX1_divideBySorting) (maxL := 5) (ret := none) (own := RX1) (by decide) rfl rfl (Nat.le_of_ble_eq_true rfl) (lst := [(0, .ref (x_b G + a)), (1, .ref (x_b G + (o + 1))), (2, .int (nI a0))]) rfl ?_
  intro p e s m args below meth c C hr hlocks
  refine a_aload_n C dX1_divideBySorting_0 0 rfl ?_
  refine a_aload_n C dX1_divideBySorting_1 1 rfl ?_
  refine a_iload_n C dX1_divideBySorting_2 2 rfl ?_
  refine a_callV C (k := a) (As := [.ref (x_b G + (o + 1)), .int (nI a0)]) (rest := []) (c_X1_giveQuotas l G d a o n a0 sh ha ho hn h8 hs hs9 hS ha0) (cwV 2 C.1.2.2.2.2 gX1_divideBySorting_X1_giveQuotas rfl rfl rfl (by decide +kernel) ⟨Nat.le_of_ble_eq_true rfl, Nat.le_of_ble_eq_true rfl⟩) (x_sA0 ha) (q := (RX1, TX1, 3)) rfl rfl rfl rfl (Nat.le_of_ble_eq_true rfl) dX1_divideBySorting_3 ⟨Nat.le_of_ble_eq_true rfl, Nat.le_of_ble_eq_true rfl⟩ ?_
  refine a_istore_n C dX1_divideBySorting_6 (by decide) (lst2 := [(3, .int (nI (a0 - f_sn (f_qt a0 sh n) n))), (0, .ref (x_b G + a)), (1, .ref (x_b G + (o + 1))), (2, .int (nI a0))]) rfl ?_
  refine a_aload_n C dX1_divideBySorting_7 1 rfl ?_
  refine a_aload_n C dX1_divideBySorting_8 2 rfl ?_
  refine a_getI C (k := (o + 1)) iX5 (x_sS1 ho) rfl (j := 0) rfl (by decide) (by decide +kernel) dX1_divideBySorting_9 ?_
  refine a_top (y := (d (o + 1) 0)) (by rw [x_r_ne2 (by omega), x_r_ne2 (by omega)]) ?_
  refine a_top (y := (nI n)) hn ?_
  refine a_callV C (k := a) (As := [.int (nI n)]) (rest := []) (c_X1_sortByRemainder l G (x_r (x_r d (a + 1) (f_Q a0 sh n (d (a + 1)) n)) (a + 2) (f_R a0 sh n (d (a + 2)) n)) a n ha h8) (cwV 1 C.1.2.2.2.2 gX1_divideBySorting_X1_sortByRemainder rfl rfl rfl (by decide +kernel) ⟨Nat.le_of_ble_eq_true rfl, Nat.le_of_ble_eq_true rfl⟩) (x_sA0 ha) (q := (RX1, TX1, 3)) rfl rfl rfl rfl (Nat.le_of_ble_eq_true rfl) dX1_divideBySorting_12 ⟨Nat.le_of_ble_eq_true rfl, Nat.le_of_ble_eq_true rfl⟩ ?_
  refine a_toD (d2 := x_r (x_r (x_r d (a + 1) (f_inc (f_Q a0 sh n (d (a + 1)) n) (f_ord (f_R a0 sh n (d (a + 2)) n) n) 0)) (a + 2) (f_R a0 sh n (d (a + 2)) n)) (a + 3) (f_O (f_R a0 sh n (d (a + 2)) n) (d (a + 3)) n)) (by simp [x_r, f_inc]) ?_
  refine a_iconst C dX1_divideBySorting_15 (v := 0) (by decide) ?_
  refine a_istore C dX1_divideBySorting_16 (by decide) (lst2 := [(4, .int 0), (3, .int (nI (a0 - f_sn (f_qt a0 sh n) n))), (0, .ref (x_b G + a)), (1, .ref (x_b G + (o + 1))), (2, .int (nI a0))]) rfl ?_
  have L18 : ∀ (j i : Nat), i ≤ (a0 - f_sn (f_qt a0 sh n) n) → (a0 - f_sn (f_qt a0 sh n) n) < i + j → Ab G p l e (x_rm 3 0 0) s m args below meth c 5 0 0 (MQ below (x_Q G none (x_r (x_r (x_r d (a + 1) (f_inc (f_Q a0 sh n (d (a + 1)) n) (f_ord (f_R a0 sh n (d (a + 2)) n) n) ((a0 - f_sn (f_qt a0 sh n) n)))) (a + 2) (f_R a0 sh n (d (a + 2)) n)) (a + 3) (f_O (f_R a0 sh n (d (a + 2)) n) (d (a + 3)) n))) args s 0 0 (x_A G)) 18 [(4, .int (nI i)), (3, .int (nI (a0 - f_sn (f_qt a0 sh n) n))), (0, .ref (x_b G + a)), (1, .ref (x_b G + (o + 1))), (2, .int (nI a0))] [] (x_r (x_r (x_r d (a + 1) (f_inc (f_Q a0 sh n (d (a + 1)) n) (f_ord (f_R a0 sh n (d (a + 2)) n) n) i)) (a + 2) (f_R a0 sh n (d (a + 2)) n)) (a + 3) (f_O (f_R a0 sh n (d (a + 2)) n) (d (a + 3)) n)) := by
    intro j
    induction j with
    | zero => intro i h1 h2; exact absurd h2 (by omega)
    | succ j ih =>
      intro i hi hj 
      refine a_iload C dX1_divideBySorting_18 0 rfl ?_
      refine a_iload_n C dX1_divideBySorting_20 1 rfl ?_
      refine a_icmp_ge C dX1_divideBySorting_21 (tgt := 55) (by decide) (fun h21 => ?_) (fun h21 => ?_)
      · skip
        have e := x_ge h21 hi (by omega)
        rw [e]
        exact a_vret C hlocks hr dX1_divideBySorting_55 rfl
      · skip
        have hlt := x_nge h21 hi
        have hol := f_ord_lt (f_R a0 sh n (d (a + 2)) n) n i (by omega)
        refine a_iload C dX1_divideBySorting_24 0 rfl ?_
        refine a_aload_n C dX1_divideBySorting_26 3 rfl ?_
        refine a_getI C (k := (o + 1)) iX5 (x_sS1 ho) rfl (j := 0) rfl (by decide) (by decide +kernel) dX1_divideBySorting_27 ?_
        refine a_top (y := (d (o + 1) 0)) (by rw [x_r_ne2 (by omega), x_r_ne2 (by omega), x_r_ne2 (by omega)]) ?_
        refine a_top (y := (nI n)) hn ?_
        refine a_icmp_ge C dX1_divideBySorting_30 (tgt := 55) (by decide) (fun h => absurd h (Int32.not_le.mpr (nI_lt (show i < n by omega) (by omega)))) (fun h30 => ?_)
        refine a_aload_n C dX1_divideBySorting_33 2 rfl ?_
        refine a_getR C (k := a) iX1 (x_sA0 ha) rfl (j := 0) rfl (by decide) (by decide +kernel) dX1_divideBySorting_34 ?_
        refine a_aload_n C dX1_divideBySorting_37 2 rfl ?_
        refine a_getR C (k := a) iX1 (x_sA0 ha) rfl (j := 2) rfl (by decide) (by decide +kernel) dX1_divideBySorting_38 ?_
        refine a_iload C dX1_divideBySorting_41 0 rfl ?_
        refine a_ialdN C (k := (a + 3)) (x_sA3 ha) (i := i) rfl (by omega) (by first | decide | omega) dX1_divideBySorting_43 ?_
        refine a_top (y := (nI (f_ord (f_R a0 sh n (d (a + 2)) n) n i))) (by simp only [x_r_same, f_O, f_fill]; rw [if_pos (by omega)]) ?_
        refine a_dup2 C dX1_divideBySorting_44 rfl rfl ?_
        refine a_ialdN C (k := (a + 1)) (x_sA1 ha) (i := f_ord (f_R a0 sh n (d (a + 2)) n) n i) rfl (by omega) (by first | decide | omega) dX1_divideBySorting_45 ?_
        refine a_top (y := ((x_r d (a + 1) (f_inc (f_Q a0 sh n (d (a + 1)) n) (f_ord (f_R a0 sh n (d (a + 2)) n) n) i)) (a + 1) (f_ord (f_R a0 sh n (d (a + 2)) n) n i))) (by rw [x_r_ne2 (by omega), x_r_ne2 (by omega)]) ?_
        refine a_top (y := (f_inc (f_Q a0 sh n (d (a + 1)) n) (f_ord (f_R a0 sh n (d (a + 2)) n) n) i (f_ord (f_R a0 sh n (d (a + 2)) n) n i))) (by simp [x_r]) ?_
        refine a_iconst C dX1_divideBySorting_46 (v := 1) (by decide) ?_
        refine a_iadd C dX1_divideBySorting_47 ?_
        refine a_iastN C (k := (a + 1)) (x_sA1 ha) (i := f_ord (f_R a0 sh n (d (a + 2)) n) n i) rfl (by omega) (by first | decide | omega) dX1_divideBySorting_48 ?_
        refine a_iinc C dX1_divideBySorting_49 0 rfl (v := (nI (i + 1))) (x_inc i) (by decide) (lst2 := [(4, .int (nI (i + 1))), (3, .int (nI (a0 - f_sn (f_qt a0 sh n) n))), (0, .ref (x_b G + a)), (1, .ref (x_b G + (o + 1))), (2, .int (nI a0))]) rfl ?_
        refine a_goto C dX1_divideBySorting_52 (tgt := 18) (by decide) ?_
        refine a_sub (lst2 := [(4, .int (nI (i + 1))), (3, .int (nI (a0 - f_sn (f_qt a0 sh n) n))), (0, .ref (x_b G + a)), (1, .ref (x_b G + (o + 1))), (2, .int (nI a0))]) [0, 1, 2, 3, 4] rfl ?_
        refine a_to (lst2 := [(4, .int (nI ((i + 1)))), (3, .int (nI (a0 - f_sn (f_qt a0 sh n) n))), (0, .ref (x_b G + a)), (1, .ref (x_b G + (o + 1))), (2, .int (nI a0))]) (st2 := []) (d2 := x_r (x_r (x_r d (a + 1) (f_inc (f_Q a0 sh n (d (a + 1)) n) (f_ord (f_R a0 sh n (d (a + 2)) n) n) ((i + 1)))) (a + 2) (f_R a0 sh n (d (a + 2)) n)) (a + 3) (f_O (f_R a0 sh n (d (a + 2)) n) (d (a + 3)) n)) rfl rfl (x_p_1of3 (by omega) (by omega) (by rw [f_inc])).symm ?_
        exact ih (i + 1) (by omega) (by omega) 
  refine a_sub (lst2 := [(4, .int 0), (3, .int (nI (a0 - f_sn (f_qt a0 sh n) n))), (0, .ref (x_b G + a)), (1, .ref (x_b G + (o + 1))), (2, .int (nI a0))]) [0, 1, 2, 3, 4] rfl ?_
  exact L18 ((a0 - f_sn (f_qt a0 sh n) n) + 1) 0 (by omega) (by omega) 

set_option maxHeartbeats 4000000 in
set_option maxRecDepth 100000 in
theorem c_X1_divideBySorting_0 (l : Launch) (G : xG) (d : xd) (a o : Nat) (ha : x_isA a) (ho : x_isS o) (hn : d (o + 1) 0 = nI 0) (x : Int32) : x_M G l yX1_divideBySorting wsX1_divideBySorting 3 0 0 [.ref (x_b G + a), .ref (x_b G + (o + 1)), .int x] d none (x_r d (a + 3) (f_O (d (a + 2)) (d (a + 3)) 0)) := by
  have hap := x_isA_off ha ho
  have iX5 : ∀ w ∈ u_ws RX5 TX5 8, w ∈ wsX1_divideBySorting := by decide +kernel
  refine x_start (cc := cX1_divideBySorting) (maxL := 5) (ret := none) (own := RX1) (by decide) rfl rfl (Nat.le_of_ble_eq_true rfl) (lst := [(0, .ref (x_b G + a)), (1, .ref (x_b G + (o + 1))), (2, .int x)]) rfl ?_
  intro p e s m args below meth c C hr hlocks
  refine a_aload_n C dX1_divideBySorting_0 0 rfl ?_
  refine a_aload_n C dX1_divideBySorting_1 1 rfl ?_
  refine a_iload_n C dX1_divideBySorting_2 2 rfl ?_
  refine a_callV C (k := a) (As := [.ref (x_b G + (o + 1)), .int x]) (rest := []) (c_X1_giveQuotas_0 l G d a o ha ho hn x) (cwV 2 C.1.2.2.2.2 gX1_divideBySorting_X1_giveQuotas rfl rfl rfl (by decide +kernel) ⟨Nat.le_of_ble_eq_true rfl, Nat.le_of_ble_eq_true rfl⟩) (x_sA0 ha) (q := (RX1, TX1, 3)) rfl rfl rfl rfl (Nat.le_of_ble_eq_true rfl) dX1_divideBySorting_3 ⟨Nat.le_of_ble_eq_true rfl, Nat.le_of_ble_eq_true rfl⟩ ?_
  refine a_istore_n C dX1_divideBySorting_6 (by decide) (lst2 := [(3, .int 0), (0, .ref (x_b G + a)), (1, .ref (x_b G + (o + 1))), (2, .int x)]) rfl ?_
  refine a_aload_n C dX1_divideBySorting_7 1 rfl ?_
  refine a_aload_n C dX1_divideBySorting_8 2 rfl ?_
  refine a_getI C (k := (o + 1)) iX5 (x_sS1 ho) rfl (j := 0) rfl (by decide) (by decide +kernel) dX1_divideBySorting_9 ?_
  refine a_top (y := (nI 0)) hn ?_
  refine a_callV C (k := a) (As := [.int (nI 0)]) (rest := []) (c_X1_sortByRemainder l G d a 0 ha (by omega)) (cwV 1 C.1.2.2.2.2 gX1_divideBySorting_X1_sortByRemainder rfl rfl rfl (by decide +kernel) ⟨Nat.le_of_ble_eq_true rfl, Nat.le_of_ble_eq_true rfl⟩) (x_sA0 ha) (q := (RX1, TX1, 3)) rfl rfl rfl rfl (Nat.le_of_ble_eq_true rfl) dX1_divideBySorting_12 ⟨Nat.le_of_ble_eq_true rfl, Nat.le_of_ble_eq_true rfl⟩ ?_
  refine a_iconst C dX1_divideBySorting_15 (v := 0) (by decide) ?_
  refine a_istore C dX1_divideBySorting_16 (by decide) (lst2 := [(4, .int 0), (3, .int 0), (0, .ref (x_b G + a)), (1, .ref (x_b G + (o + 1))), (2, .int x)]) rfl ?_
  refine a_iload C dX1_divideBySorting_18 0 rfl ?_
  refine a_iload_n C dX1_divideBySorting_20 1 rfl ?_
  refine a_icmp_ge C dX1_divideBySorting_21 (tgt := 55) (by decide) (fun _ => ?_) (fun h => absurd h (by decide))
  exact a_vret C hlocks hr dX1_divideBySorting_55 rfl

set_option maxHeartbeats 4000000 in
set_option maxRecDepth 100000 in
theorem c_X1_divideInRounds (l : Launch) (G : xG) (d : xd) (a o mm a0 : Nat) (sh : Nat → Nat) (ha : x_isA a) (ho : x_isS o) (hn : d (o + 1) 0 = nI (mm + 1)) (h8 : mm + 1 ≤ 8) (hs : ∀ j, j < mm + 1 → d (o + 3) j = nI (sh j)) (hs9 : ∀ j, j < mm + 1 → sh j ≤ 9) (hS : 1 ≤ f_sn sh (mm + 1)) (ha0 : a0 < 100000) : x_M G l yX1_divideInRounds wsX1_divideInRounds 3 0 0 [.ref (x_b G + a), .ref (x_b G + (o + 1)), .int (nI a0)] d none (x_r (x_r d (a + 1) (f_inc (f_Q a0 sh (mm + 1) (d (a + 1)) (mm + 1)) (fun i => f_bst (f_rr (f_R a0 sh (mm + 1) (d (a + 2)) (mm + 1)) mm i) mm) ((a0 - f_sn (f_qt a0 sh (mm + 1)) (mm + 1))))) (a + 2) (f_rr (f_R a0 sh (mm + 1) (d (a + 2)) (mm + 1)) mm ((a0 - f_sn (f_qt a0 sh (mm + 1)) (mm + 1))))) := by
  have hap := x_isA_off ha ho
  have hL := x_left (a0 := a0) hS
  have iX1 : ∀ w ∈ u_ws RX1 TX1 3, w ∈ wsX1_divideInRounds := by decide +kernel
  have iX5 : ∀ w ∈ u_ws RX5 TX5 8, w ∈ wsX1_divideInRounds := by decide +kernel
  refine x_start (cc := cX1_divideInRounds) (maxL := 6) (ret := none) (own := RX1) (by decide) rfl rfl (Nat.le_of_ble_eq_true rfl) (lst := [(0, .ref (x_b G + a)), (1, .ref (x_b G + (o + 1))), (2, .int (nI a0))]) rfl ?_
  intro p e s m args below meth c C hr hlocks
  refine a_aload_n C dX1_divideInRounds_0 0 rfl ?_
  refine a_aload_n C dX1_divideInRounds_1 1 rfl ?_
  refine a_iload_n C dX1_divideInRounds_2 2 rfl ?_
  refine a_callV C (k := a) (As := [.ref (x_b G + (o + 1)), .int (nI a0)]) (rest := []) (c_X1_giveQuotas l G d a o (mm + 1) a0 sh ha ho hn h8 hs hs9 hS ha0) (cwV 2 C.1.2.2.2.2 gX1_divideInRounds_X1_giveQuotas rfl rfl rfl (by decide +kernel) ⟨Nat.le_of_ble_eq_true rfl, Nat.le_of_ble_eq_true rfl⟩) (x_sA0 ha) (q := (RX1, TX1, 3)) rfl rfl rfl rfl (Nat.le_of_ble_eq_true rfl) dX1_divideInRounds_3 ⟨Nat.le_of_ble_eq_true rfl, Nat.le_of_ble_eq_true rfl⟩ ?_
  refine a_istore_n C dX1_divideInRounds_6 (by decide) (lst2 := [(3, .int (nI (a0 - f_sn (f_qt a0 sh (mm + 1)) (mm + 1)))), (0, .ref (x_b G + a)), (1, .ref (x_b G + (o + 1))), (2, .int (nI a0))]) rfl ?_
  refine a_iconst C dX1_divideInRounds_7 (v := 0) (by decide) ?_
  refine a_istore C dX1_divideInRounds_8 (by decide) (lst2 := [(4, .int 0), (3, .int (nI (a0 - f_sn (f_qt a0 sh (mm + 1)) (mm + 1)))), (0, .ref (x_b G + a)), (1, .ref (x_b G + (o + 1))), (2, .int (nI a0))]) rfl ?_
  have L10 : ∀ (j i : Nat), i ≤ (a0 - f_sn (f_qt a0 sh (mm + 1)) (mm + 1)) → (a0 - f_sn (f_qt a0 sh (mm + 1)) (mm + 1)) < i + j → Ab G p l e (x_rm 3 0 0) s m args below meth c 6 0 0 (MQ below (x_Q G none (x_r (x_r d (a + 1) (f_inc (f_Q a0 sh (mm + 1) (d (a + 1)) (mm + 1)) (fun i => f_bst (f_rr (f_R a0 sh (mm + 1) (d (a + 2)) (mm + 1)) mm i) mm) ((a0 - f_sn (f_qt a0 sh (mm + 1)) (mm + 1))))) (a + 2) (f_rr (f_R a0 sh (mm + 1) (d (a + 2)) (mm + 1)) mm ((a0 - f_sn (f_qt a0 sh (mm + 1)) (mm + 1)))))) args s 0 0 (x_A G)) 10 [(4, .int (nI i)), (3, .int (nI (a0 - f_sn (f_qt a0 sh (mm + 1)) (mm + 1)))), (0, .ref (x_b G + a)), (1, .ref (x_b G + (o + 1))), (2, .int (nI a0))] [] (x_r (x_r d (a + 1) (f_inc (f_Q a0 sh (mm + 1) (d (a + 1)) (mm + 1)) (fun i => f_bst (f_rr (f_R a0 sh (mm + 1) (d (a + 2)) (mm + 1)) mm i) mm) i)) (a + 2) (f_rr (f_R a0 sh (mm + 1) (d (a + 2)) (mm + 1)) mm i)) := by
    intro j
    induction j with
    | zero => intro i h1 h2; exact absurd h2 (by omega)
    | succ j ih =>
      intro i hi hj 
      have hb := f_bst_le (f_rr (f_R a0 sh (mm + 1) (d (a + 2)) (mm + 1)) mm i) mm
      refine a_iload C dX1_divideInRounds_10 0 rfl ?_
      refine a_iload_n C dX1_divideInRounds_12 1 rfl ?_
      refine a_icmp_ge C dX1_divideInRounds_13 (tgt := 60) (by decide) (fun h13 => ?_) (fun h13 => ?_)
      · skip
        have e := x_ge h13 hi (by omega)
        rw [e]
        exact a_vret C hlocks hr dX1_divideInRounds_60 rfl
      · skip
        have hlt := x_nge h13 hi
        refine a_iload C dX1_divideInRounds_16 0 rfl ?_
        refine a_aload_n C dX1_divideInRounds_18 3 rfl ?_
        refine a_getI C (k := (o + 1)) iX5 (x_sS1 ho) rfl (j := 0) rfl (by decide) (by decide +kernel) dX1_divideInRounds_19 ?_
        refine a_top (y := (d (o + 1) 0)) (by rw [x_r_ne2 (by omega), x_r_ne2 (by omega)]) ?_
        refine a_top (y := (nI (mm + 1))) hn ?_
        refine a_icmp_ge C dX1_divideInRounds_22 (tgt := 60) (by decide) (fun h => absurd h (Int32.not_le.mpr (nI_lt (show i < mm + 1 by omega) (by omega)))) (fun h22 => ?_)
        refine a_aload_n C dX1_divideInRounds_25 2 rfl ?_
        refine a_aload_n C dX1_divideInRounds_26 3 rfl ?_
        refine a_getI C (k := (o + 1)) iX5 (x_sS1 ho) rfl (j := 0) rfl (by decide) (by decide +kernel) dX1_divideInRounds_27 ?_
        refine a_top (y := (d (o + 1) 0)) (by rw [x_r_ne2 (by omega), x_r_ne2 (by omega)]) ?_
        refine a_top (y := (nI (mm + 1))) hn ?_
        refine a_callV C (k := a) (As := [.int (nI (mm + 1))]) (rest := []) (c_X1_greatestRemainder l G (x_r (x_r d (a + 1) (f_inc (f_Q a0 sh (mm + 1) (d (a + 1)) (mm + 1)) (fun i => f_bst (f_rr (f_R a0 sh (mm + 1) (d (a + 2)) (mm + 1)) mm i) mm) i)) (a + 2) (f_rr (f_R a0 sh (mm + 1) (d (a + 2)) (mm + 1)) mm i)) a mm ha (by omega)) (cwV 1 C.1.2.2.2.2 gX1_divideInRounds_X1_greatestRemainder rfl rfl rfl (by decide +kernel) ⟨Nat.le_of_ble_eq_true rfl, Nat.le_of_ble_eq_true rfl⟩) (x_sA0 ha) (q := (RX1, TX1, 3)) rfl rfl rfl rfl (Nat.le_of_ble_eq_true rfl) dX1_divideInRounds_30 ⟨Nat.le_of_ble_eq_true rfl, Nat.le_of_ble_eq_true rfl⟩ ?_
        refine a_top (y := (nI (f_bst (f_rr (f_R a0 sh (mm + 1) (d (a + 2)) (mm + 1)) mm i) mm))) (by simp [x_r]) ?_
        refine a_istore C dX1_divideInRounds_33 (by decide) (lst2 := [(5, .int (nI (f_bst (f_rr (f_R a0 sh (mm + 1) (d (a + 2)) (mm + 1)) mm i) mm))), (4, .int (nI i)), (3, .int (nI (a0 - f_sn (f_qt a0 sh (mm + 1)) (mm + 1)))), (0, .ref (x_b G + a)), (1, .ref (x_b G + (o + 1))), (2, .int (nI a0))]) rfl ?_
        refine a_aload_n C dX1_divideInRounds_35 3 rfl ?_
        refine a_getR C (k := a) iX1 (x_sA0 ha) rfl (j := 0) rfl (by decide) (by decide +kernel) dX1_divideInRounds_36 ?_
        refine a_iload C dX1_divideInRounds_39 0 rfl ?_
        refine a_dup2 C dX1_divideInRounds_41 rfl rfl ?_
        refine a_ialdN C (k := (a + 1)) (x_sA1 ha) (i := f_bst (f_rr (f_R a0 sh (mm + 1) (d (a + 2)) (mm + 1)) mm i) mm) rfl (by omega) (by first | decide | omega) dX1_divideInRounds_42 ?_
        refine a_top (y := ((x_r d (a + 1) (f_inc (f_Q a0 sh (mm + 1) (d (a + 1)) (mm + 1)) (fun i => f_bst (f_rr (f_R a0 sh (mm + 1) (d (a + 2)) (mm + 1)) mm i) mm) i)) (a + 1) (f_bst (f_rr (f_R a0 sh (mm + 1) (d (a + 2)) (mm + 1)) mm i) mm))) (by rw [x_r_ne2 (by omega)]) ?_
        refine a_top (y := (f_inc (f_Q a0 sh (mm + 1) (d (a + 1)) (mm + 1)) (fun i => f_bst (f_rr (f_R a0 sh (mm + 1) (d (a + 2)) (mm + 1)) mm i) mm) i (f_bst (f_rr (f_R a0 sh (mm + 1) (d (a + 2)) (mm + 1)) mm i) mm))) (by simp [x_r]) ?_
        refine a_iconst C dX1_divideInRounds_43 (v := 1) (by decide) ?_
        refine a_iadd C dX1_divideInRounds_44 ?_
        refine a_iastN C (k := (a + 1)) (x_sA1 ha) (i := f_bst (f_rr (f_R a0 sh (mm + 1) (d (a + 2)) (mm + 1)) mm i) mm) rfl (by omega) (by first | decide | omega) dX1_divideInRounds_45 ?_
        refine a_aload_n C dX1_divideInRounds_46 3 rfl ?_
        refine a_getR C (k := a) iX1 (x_sA0 ha) rfl (j := 1) rfl (by decide) (by decide +kernel) dX1_divideInRounds_47 ?_
        refine a_iload C dX1_divideInRounds_50 0 rfl ?_
        refine a_iconst C dX1_divideInRounds_52 (v := -1) (by decide) ?_
        refine a_iastN C (k := (a + 2)) (x_sA2 ha) (i := f_bst (f_rr (f_R a0 sh (mm + 1) (d (a + 2)) (mm + 1)) mm i) mm) rfl (by omega) (by first | decide | omega) dX1_divideInRounds_53 ?_
        refine a_iinc C dX1_divideInRounds_54 1 rfl (v := (nI (i + 1))) (x_inc i) (by decide) (lst2 := [(4, .int (nI (i + 1))), (5, .int (nI (f_bst (f_rr (f_R a0 sh (mm + 1) (d (a + 2)) (mm + 1)) mm i) mm))), (3, .int (nI (a0 - f_sn (f_qt a0 sh (mm + 1)) (mm + 1)))), (0, .ref (x_b G + a)), (1, .ref (x_b G + (o + 1))), (2, .int (nI a0))]) rfl ?_
        refine a_goto C dX1_divideInRounds_57 (tgt := 10) (by decide) ?_
        refine a_sub (lst2 := [(4, .int (nI (i + 1))), (3, .int (nI (a0 - f_sn (f_qt a0 sh (mm + 1)) (mm + 1)))), (0, .ref (x_b G + a)), (1, .ref (x_b G + (o + 1))), (2, .int (nI a0))]) [0, 2, 3, 4, 5] rfl ?_
        refine a_to (lst2 := [(4, .int (nI ((i + 1)))), (3, .int (nI (a0 - f_sn (f_qt a0 sh (mm + 1)) (mm + 1)))), (0, .ref (x_b G + a)), (1, .ref (x_b G + (o + 1))), (2, .int (nI a0))]) (st2 := []) (d2 := x_r (x_r d (a + 1) (f_inc (f_Q a0 sh (mm + 1) (d (a + 1)) (mm + 1)) (fun i => f_bst (f_rr (f_R a0 sh (mm + 1) (d (a + 2)) (mm + 1)) mm i) mm) ((i + 1)))) (a + 2) (f_rr (f_R a0 sh (mm + 1) (d (a + 2)) (mm + 1)) mm ((i + 1)))) rfl rfl (x_two (by omega) (by rw [f_inc]) (by rw [f_rr])).symm ?_
        exact ih (i + 1) (by omega) (by omega) 
  refine a_sub (lst2 := [(4, .int 0), (3, .int (nI (a0 - f_sn (f_qt a0 sh (mm + 1)) (mm + 1)))), (0, .ref (x_b G + a)), (1, .ref (x_b G + (o + 1))), (2, .int (nI a0))]) [0, 1, 2, 3, 4] rfl ?_
  exact L10 ((a0 - f_sn (f_qt a0 sh (mm + 1)) (mm + 1)) + 1) 0 (by omega) (by omega)

set_option maxHeartbeats 4000000 in
set_option maxRecDepth 100000 in
theorem c_X1_divideInRounds_0 (l : Launch) (G : xG) (d : xd) (a o : Nat) (ha : x_isA a) (ho : x_isS o) (hn : d (o + 1) 0 = nI 0) (x : Int32) : x_M G l yX1_divideInRounds wsX1_divideInRounds 3 0 0 [.ref (x_b G + a), .ref (x_b G + (o + 1)), .int x] d none d := by
  have hap := x_isA_off ha ho
  refine x_start (cc := cX1_divideInRounds) (maxL := 6) (ret := none) (own := RX1) (by decide) rfl rfl (Nat.le_of_ble_eq_true rfl) (lst := [(0, .ref (x_b G + a)), (1, .ref (x_b G + (o + 1))), (2, .int x)]) rfl ?_
  intro p e s m args below meth c C hr hlocks
  refine a_aload_n C dX1_divideInRounds_0 0 rfl ?_
  refine a_aload_n C dX1_divideInRounds_1 1 rfl ?_
  refine a_iload_n C dX1_divideInRounds_2 2 rfl ?_
  refine a_callV C (k := a) (As := [.ref (x_b G + (o + 1)), .int x]) (rest := []) (c_X1_giveQuotas_0 l G d a o ha ho hn x) (cwV 2 C.1.2.2.2.2 gX1_divideInRounds_X1_giveQuotas rfl rfl rfl (by decide +kernel) ⟨Nat.le_of_ble_eq_true rfl, Nat.le_of_ble_eq_true rfl⟩) (x_sA0 ha) (q := (RX1, TX1, 3)) rfl rfl rfl rfl (Nat.le_of_ble_eq_true rfl) dX1_divideInRounds_3 ⟨Nat.le_of_ble_eq_true rfl, Nat.le_of_ble_eq_true rfl⟩ ?_
  refine a_istore_n C dX1_divideInRounds_6 (by decide) (lst2 := [(3, .int 0), (0, .ref (x_b G + a)), (1, .ref (x_b G + (o + 1))), (2, .int x)]) rfl ?_
  refine a_iconst C dX1_divideInRounds_7 (v := 0) (by decide) ?_
  refine a_istore C dX1_divideInRounds_8 (by decide) (lst2 := [(4, .int 0), (3, .int 0), (0, .ref (x_b G + a)), (1, .ref (x_b G + (o + 1))), (2, .int x)]) rfl ?_
  refine a_iload C dX1_divideInRounds_10 0 rfl ?_
  refine a_iload_n C dX1_divideInRounds_12 1 rfl ?_
  refine a_icmp_ge C dX1_divideInRounds_13 (tgt := 60) (by decide) (fun _ => ?_) (fun h => absurd h (by decide))
  exact a_vret C hlocks hr dX1_divideInRounds_60 rfl


