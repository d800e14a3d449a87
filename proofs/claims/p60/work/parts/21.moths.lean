/-- the first i places filled with f, the rest as in g -/
def f_fill (f g : Nat → Int32) (i : Nat) : Nat → Int32 := fun j => if j < i then f j else g j
theorem f_fill_0 (f g : Nat → Int32) : f_fill f g 0 = g := by funext j; simp [f_fill]
theorem f_fill_at (f g : Nat → Int32) (i : Nat) : f_fill f g i i = g i := by simp [f_fill]
theorem f_fill_s (f g : Nat → Int32) (i : Nat) : upd (f_fill f g i) i (f i) = f_fill f g (i + 1) := by
  funext j
  simp only [upd, f_fill]
  by_cases h : j = i
  · subst h; simp
  · by_cases h2 : j < i
    · rw [if_neg h, if_pos h2, if_pos (by omega)]
    · rw [if_neg h, if_neg h2, if_neg (by omega)]
theorem f_fill_skip {f g : Nat → Int32} {i : Nat} (h : f i = g i) : f_fill f g i = f_fill f g (i + 1) := by
  rw [← f_fill_s, h]
  funext j
  simp only [upd]
  by_cases q : j = i
  · subst q; rw [if_pos rfl, f_fill_at]
  · rw [if_neg q]
theorem x_two {d : xd} {k1 k2 i j : Nat} {f1 f2 g1 g2 : Nat → Int32} {u v : Int32} (h : k1 ≠ k2) (h1 : upd f1 i u = g1) (h2 : upd f2 j v = g2) : x_p (x_p (x_r (x_r d k1 f1) k2 f2) k1 i u) k2 j v = x_r (x_r d k1 g1) k2 g2 := by
  subst h1; subst h2
  funext q
  by_cases a : q = k1
  · subst a; simp [x_p, x_r, h]
  · by_cases b : q = k2
    · subst b; simp [x_p, x_r, a]
    · simp [x_p, x_r, a, b]
theorem x_three {d : xd} {k1 k2 k3 i : Nat} {f1 f2 f3 g1 g2 g3 : Nat → Int32} {u v w : Int32} (h : k1 ≠ k2) (h4 : k1 ≠ k3) (h5 : k2 ≠ k3) (h1 : upd f1 i u = g1) (h2 : upd f2 i v = g2) (h3 : upd f3 i w = g3) : x_p (x_p (x_p (x_r (x_r (x_r d k1 f1) k2 f2) k3 f3) k1 i u) k2 i v) k3 i w = x_r (x_r (x_r d k1 g1) k2 g2) k3 g3 := by
  subst h1; subst h2; subst h3
  funext q
  by_cases a : q = k1
  · subst a; simp [x_p, x_r, h, h4]
  · by_cases b : q = k2
    · subst b; simp [x_p, x_r, a, h5]
    · by_cases c : q = k3
      · subst c; simp [x_p, x_r, a, b]
      · simp [x_p, x_r, a, b, c]
theorem x_r_id3 (d : xd) (k1 k2 k3 : Nat) : d = x_r (x_r (x_r d k1 (d k1)) k2 (d k2)) k3 (d k3) := by
  rw [← x_r_id d k1, ← x_r_id d k2, ← x_r_id d k3]
/-- what a moth circles when lamp x has gone -/
def f_fg (g : Nat → Int32) (x : Int32) : Nat → Int32 := fun j => if g j = x then -1 else if x < g j then g j - 1 else g j
/-- how many of the first i moths stay -/
def f_k (s : Nat → Int32) : Nat → Nat
  | 0 => 0
  | i + 1 => if s i < 2 then f_k s i + 1 else f_k s i
theorem f_k_le (s : Nat → Int32) : ∀ i, f_k s i ≤ i
  | 0 => Nat.le_refl 0
  | i + 1 => by
    have h := f_k_le s i
    rw [f_k]
    split <;> omega
def f_cmp (g s : Nat → Int32) : Nat → Nat → Int32
  | 0 => g
  | i + 1 => if s i < 2 then upd (f_cmp g s i) (f_k s i) (g i) else f_cmp g s i
theorem f_cmp_at (g s : Nat → Int32) : ∀ i j, i ≤ j → f_cmp g s i j = g j
  | 0, j, _ => rfl
  | i + 1, j, h => by
    have h1 := f_cmp_at g s i j (by omega)
    have h2 := f_k_le s i
    rw [f_cmp]
    split
    · simp only [upd]
      rw [if_neg (by omega), h1]
    · exact h1

set_option maxHeartbeats 4000000 in
set_option maxRecDepth 100000 in
theorem c_X6_has (l : Launch) (G : xG) (d : xd) (o : Nat) (ho : x_isS o) (x : Int32) : x_M G l yX6_has wsX6_has 1 0 0 [.ref (x_b G + (o + 9)), .int x] d (some (.int (x_bi (0 ≤ x ∧ x < d (o + 9) 0)))) d := by
  have iX6 : ∀ w ∈ u_ws RX6 TX6 4, w ∈ wsX6_has := by decide +kernel
  refine x_start (cc := cX6_has) (maxL := 2) (ret := (some .boolean)) (own := RX6) (by decide) rfl rfl (Nat.le_of_ble_eq_true rfl) (lst := [(0, .ref (x_b G + (o + 9))), (1, .int x)]) rfl ?_
  intro p e s m args below meth c C hr hlocks
  refine a_iload_n C dX6_has_0 1 rfl ?_
  refine a_if_lt C dX6_has_1 (tgt := 16) (by decide) (fun h1 => ?_) (fun h1 => ?_)
  · skip
    refine a_iconst C dX6_has_16 (v := 0) (by decide) ?_
    exact a_zret C hlocks hr rfl dX6_has_17 (x_bi_f (fun h => absurd h.1 (Int32.not_le.mpr h1))).symm rfl
  · skip
    refine a_iload_n C dX6_has_4 1 rfl ?_
    refine a_aload_n C dX6_has_5 0 rfl ?_
    refine a_getI C (k := (o + 9)) iX6 (x_sS9 ho) rfl (j := 0) rfl (by decide) (by decide +kernel) dX6_has_6 ?_
    refine a_icmp_ge C dX6_has_9 (tgt := 16) (by decide) (fun h9 => ?_) (fun h9 => ?_)
    · skip
      refine a_iconst C dX6_has_16 (v := 0) (by decide) ?_
      exact a_zret C hlocks hr rfl dX6_has_17 (x_bi_f (fun h => absurd h.2 (Int32.not_lt.mpr h9))).symm rfl
    · skip
      refine a_iconst C dX6_has_12 (v := 1) (by decide) ?_
      refine a_goto C dX6_has_13 (tgt := 17) (by decide) ?_
      exact a_zret C hlocks hr rfl dX6_has_17 (x_bi_t ⟨Int32.not_lt.mp h1, Int32.not_le.mp h9⟩).symm rfl

set_option maxHeartbeats 4000000 in
set_option maxRecDepth 100000 in
theorem c_X6_onProbation (l : Launch) (G : xG) (d : xd) (o i : Nat) (ho : x_isS o) (hi : i < 6) : x_M G l yX6_onProbation wsX6_onProbation 1 0 0 [.ref (x_b G + (o + 9)), .int (nI i)] d (some (.int (x_bi (0 < d (o + 12) i)))) d := by
  have iX6 : ∀ w ∈ u_ws RX6 TX6 4, w ∈ wsX6_onProbation := by decide +kernel
  refine x_start (cc := cX6_onProbation) (maxL := 2) (ret := (some .boolean)) (own := RX6) (by decide) rfl rfl (Nat.le_of_ble_eq_true rfl) (lst := [(0, .ref (x_b G + (o + 9))), (1, .int (nI i))]) rfl ?_
  intro p e s m args below meth c C hr hlocks
  refine a_aload_n C dX6_onProbation_0 0 rfl ?_
  refine a_getR C (k := (o + 9)) iX6 (x_sS9 ho) rfl (j := 3) rfl (by decide) (by decide +kernel) dX6_onProbation_1 ?_
  refine a_iload_n C dX6_onProbation_4 1 rfl ?_
  refine a_ialdN C (k := (o + 12)) (x_sS12 ho) (i := i) rfl (by omega) (by first | decide | omega) dX6_onProbation_5 ?_
  refine a_if_le C dX6_onProbation_6 (tgt := 13) (by decide) (fun h6 => ?_) (fun h6 => ?_)
  · skip
    refine a_iconst C dX6_onProbation_13 (v := 0) (by decide) ?_
    exact a_zret C hlocks hr rfl dX6_onProbation_14 (x_bi_f (Int32.not_lt.mpr h6)).symm rfl
  · skip
    refine a_iconst C dX6_onProbation_9 (v := 1) (by decide) ?_
    refine a_goto C dX6_onProbation_10 (tgt := 14) (by decide) ?_
    exact a_zret C hlocks hr rfl dX6_onProbation_14 (x_bi_t (Int32.not_le.mp h6)).symm rfl

def f_appm (d : xd) (o n : Nat) (x : Int32) : xd := x_p (x_p (x_p (x_p d (o + 10) n x) (o + 11) n 0) (o + 12) n 3) (o + 9) 0 (nI (n + 1))
set_option maxHeartbeats 4000000 in
set_option maxRecDepth 100000 in
theorem c_X6_append (l : Launch) (G : xG) (d : xd) (o n : Nat) (ho : x_isS o) (hn : d (o + 9) 0 = nI n) (h5 : n < 6) (x : Int32) : x_M G l yX6_append wsX6_append 1 0 0 [.ref (x_b G + (o + 9)), .int x] d (some (.int (nI n))) (f_appm d o n x) := by
  have iX6 : ∀ w ∈ u_ws RX6 TX6 4, w ∈ wsX6_append := by decide +kernel
  refine x_start (cc := cX6_append) (maxL := 3) (ret := (some .int)) (own := RX6) (by decide) rfl rfl (Nat.le_of_ble_eq_true rfl) (lst := [(0, .ref (x_b G + (o + 9))), (1, .int x)]) rfl ?_
  intro p e s m args below meth c C hr hlocks
  refine a_aload_n C dX6_append_0 0 rfl ?_
  refine a_getI C (k := (o + 9)) iX6 (x_sS9 ho) rfl (j := 0) rfl (by decide) (by decide +kernel) dX6_append_1 ?_
  refine a_top (y := (nI n)) hn ?_
  refine a_istore_n C dX6_append_4 (by decide) (lst2 := [(2, .int (nI n)), (0, .ref (x_b G + (o + 9))), (1, .int x)]) rfl ?_
  refine a_aload_n C dX6_append_5 1 rfl ?_
  refine a_getR C (k := (o + 9)) iX6 (x_sS9 ho) rfl (j := 1) rfl (by decide) (by decide +kernel) dX6_append_6 ?_
  refine a_iload_n C dX6_append_9 0 rfl ?_
  refine a_iload_n C dX6_append_10 2 rfl ?_
  refine a_iastN C (k := (o + 10)) (x_sS10 ho) (i := n) rfl (by omega) (by first | decide | omega) dX6_append_11 ?_
  refine a_aload_n C dX6_append_12 1 rfl ?_
  refine a_getR C (k := (o + 9)) iX6 (x_sS9 ho) rfl (j := 2) rfl (by decide) (by decide +kernel) dX6_append_13 ?_
  refine a_iload_n C dX6_append_16 0 rfl ?_
  refine a_iconst C dX6_append_17 (v := 0) (by decide) ?_
  refine a_iastN C (k := (o + 11)) (x_sS11 ho) (i := n) rfl (by omega) (by first | decide | omega) dX6_append_18 ?_
  refine a_aload_n C dX6_append_19 1 rfl ?_
  refine a_getR C (k := (o + 9)) iX6 (x_sS9 ho) rfl (j := 3) rfl (by decide) (by decide +kernel) dX6_append_20 ?_
  refine a_iload_n C dX6_append_23 0 rfl ?_
  refine a_iconst C dX6_append_24 (v := 3) (by decide) ?_
  refine a_iastN C (k := (o + 12)) (x_sS12 ho) (i := n) rfl (by omega) (by first | decide | omega) dX6_append_25 ?_
  refine a_aload_n C dX6_append_26 1 rfl ?_
  refine a_dup C dX6_append_27 rfl ?_
  refine a_getI C (k := (o + 9)) iX6 (x_sS9 ho) rfl (j := 0) rfl (by decide) (by decide +kernel) dX6_append_28 ?_
  refine a_top (y := (d (o + 9) 0)) (by rw [x_p_ne (by omega), x_p_ne (by omega), x_p_ne (by omega)]) ?_
  refine a_top (y := (nI n)) hn ?_
  refine a_iconst C dX6_append_31 (v := 1) (by decide) ?_
  refine a_iadd C dX6_append_32 ?_
  refine a_top (y := (nI (n + 1))) (nI_1 n) ?_
  refine a_putI C (k := (o + 9)) iX6 tyX6_ok nmX6 (x_sS9 ho) rfl (j := 0) rfl (by decide) (by decide +kernel) rfl (ty := .int) (by decide +kernel) rfl rfl dX6_append_33 ?_
  refine a_iload_n C dX6_append_36 0 rfl ?_
  exact a_iret C hlocks hr dX6_append_37 rfl rfl

set_option maxHeartbeats 4000000 in
set_option maxRecDepth 100000 in
theorem c_X6_forgetLamp (l : Launch) (G : xG) (d : xd) (o n : Nat) (ho : x_isS o) (hn : d (o + 9) 0 = nI n) (h6 : n ≤ 6) (x : Int32) : x_M G l yX6_forgetLamp wsX6_forgetLamp 1 0 0 [.ref (x_b G + (o + 9)), .int x] d none (x_r d (o + 10) (f_fill (f_fg (d (o + 10)) x) (d (o + 10)) n)) := by
  have iX6 : ∀ w ∈ u_ws RX6 TX6 4, w ∈ wsX6_forgetLamp := by decide +kernel
  refine x_start (cc := cX6_forgetLamp) (maxL := 3) (ret := none) (own := RX6) (by decide) rfl rfl (Nat.le_of_ble_eq_true rfl) (lst := [(0, .ref (x_b G + (o + 9))), (1, .int x)]) rfl ?_
  intro p e s m args below meth c C hr hlocks
  refine a_iconst C dX6_forgetLamp_0 (v := 0) (by decide) ?_
  refine a_istore_n C dX6_forgetLamp_1 (by decide) (lst2 := [(2, .int 0), (0, .ref (x_b G + (o + 9))), (1, .int x)]) rfl ?_
  have L2 : ∀ (j i : Nat), i ≤ n → n < i + j → Ab G p l e (x_rm 1 0 0) s m args below meth c 3 0 0 (MQ below (x_Q G none (x_r d (o + 10) (f_fill (f_fg (d (o + 10)) x) (d (o + 10)) n))) args s 0 0 (x_A G)) 2 [(2, .int (nI i)), (0, .ref (x_b G + (o + 9))), (1, .int x)] [] (x_r d (o + 10) (f_fill (f_fg (d (o + 10)) x) (d (o + 10)) i)) := by
    intro j
    induction j with
    | zero => intro i h1 h2; exact absurd h2 (by omega)
    | succ j ih =>
      intro i hi hj 
      refine a_iload_n C dX6_forgetLamp_2 0 rfl ?_
      refine a_aload_n C dX6_forgetLamp_3 1 rfl ?_
      refine a_getI C (k := (o + 9)) iX6 (x_sS9 ho) rfl (j := 0) rfl (by decide) (by decide +kernel) dX6_forgetLamp_4 ?_
      refine a_top (y := (d (o + 9) 0)) (by rw [x_r_ne2 (by omega)]) ?_
      refine a_top (y := (nI n)) hn ?_
      refine a_icmp_ge C dX6_forgetLamp_7 (tgt := 56) (by decide) (fun h7 => ?_) (fun h7 => ?_)
      · skip
        have e := x_ge h7 hi (by omega)
        subst e
        exact a_vret C hlocks hr dX6_forgetLamp_56 rfl
      · skip
        have hlt := x_nge h7 hi
        refine a_aload_n C dX6_forgetLamp_10 1 rfl ?_
        refine a_getR C (k := (o + 9)) iX6 (x_sS9 ho) rfl (j := 1) rfl (by decide) (by decide +kernel) dX6_forgetLamp_11 ?_
        refine a_iload_n C dX6_forgetLamp_14 0 rfl ?_
        refine a_ialdN C (k := (o + 10)) (x_sS10 ho) (i := i) rfl (by omega) (by first | decide | omega) dX6_forgetLamp_15 ?_
        refine a_top (y := (d (o + 10) i)) (by rw [x_r_same, f_fill_at]) ?_
        refine a_iload_n C dX6_forgetLamp_16 2 rfl ?_
        refine a_icmp_ne C dX6_forgetLamp_17 (tgt := 30) (by decide) (fun h17 => ?_) (fun h17 => ?_)
        · skip
          refine a_aload_n C dX6_forgetLamp_30 1 rfl ?_
          refine a_getR C (k := (o + 9)) iX6 (x_sS9 ho) rfl (j := 1) rfl (by decide) (by decide +kernel) dX6_forgetLamp_31 ?_
          refine a_iload_n C dX6_forgetLamp_34 0 rfl ?_
          refine a_ialdN C (k := (o + 10)) (x_sS10 ho) (i := i) rfl (by omega) (by first | decide | omega) dX6_forgetLamp_35 ?_
          refine a_top (y := (d (o + 10) i)) (by rw [x_r_same, f_fill_at]) ?_
          refine a_iload_n C dX6_forgetLamp_36 2 rfl ?_
          refine a_icmp_le C dX6_forgetLamp_37 (tgt := 50) (by decide) (fun h37 => ?_) (fun h37 => ?_)
          · skip
            refine a_iinc C dX6_forgetLamp_50 0 rfl (v := (nI (i + 1))) (x_inc i) (by decide) (lst2 := [(2, .int (nI (i + 1))), (0, .ref (x_b G + (o + 9))), (1, .int x)]) rfl ?_
            refine a_goto C dX6_forgetLamp_53 (tgt := 2) (by decide) ?_
            refine a_sub (lst2 := [(2, .int (nI (i + 1))), (0, .ref (x_b G + (o + 9))), (1, .int x)]) [0, 1, 2] rfl ?_
            refine a_to (lst2 := [(2, .int (nI ((i + 1)))), (0, .ref (x_b G + (o + 9))), (1, .int x)]) (st2 := []) (d2 := x_r d (o + 10) (f_fill (f_fg (d (o + 10)) x) (d (o + 10)) ((i + 1)))) rfl rfl (congrArg (x_r d (o + 10)) (f_fill_skip (i := i) (by unfold f_fg; rw [if_neg h17, if_neg (Int32.not_lt.mpr h37)])).symm) ?_
            exact ih (i + 1) (by omega) (by omega) 
          · skip
            refine a_aload_n C dX6_forgetLamp_40 1 rfl ?_
            refine a_getR C (k := (o + 9)) iX6 (x_sS9 ho) rfl (j := 1) rfl (by decide) (by decide +kernel) dX6_forgetLamp_41 ?_
            refine a_iload_n C dX6_forgetLamp_44 0 rfl ?_
            refine a_dup2 C dX6_forgetLamp_45 rfl rfl ?_
            refine a_ialdN C (k := (o + 10)) (x_sS10 ho) (i := i) rfl (by omega) (by first | decide | omega) dX6_forgetLamp_46 ?_
            refine a_top (y := (d (o + 10) i)) (by rw [x_r_same, f_fill_at]) ?_
            refine a_iconst C dX6_forgetLamp_47 (v := 1) (by decide) ?_
            refine a_isub C dX6_forgetLamp_48 ?_
            refine a_iastN C (k := (o + 10)) (x_sS10 ho) (i := i) rfl (by omega) (by first | decide | omega) dX6_forgetLamp_49 ?_
            refine a_iinc C dX6_forgetLamp_50 0 rfl (v := (nI (i + 1))) (x_inc i) (by decide) (lst2 := [(2, .int (nI (i + 1))), (0, .ref (x_b G + (o + 9))), (1, .int x)]) rfl ?_
            refine a_goto C dX6_forgetLamp_53 (tgt := 2) (by decide) ?_
            refine a_sub (lst2 := [(2, .int (nI (i + 1))), (0, .ref (x_b G + (o + 9))), (1, .int x)]) [0, 1, 2] rfl ?_
            refine a_to (lst2 := [(2, .int (nI ((i + 1)))), (0, .ref (x_b G + (o + 9))), (1, .int x)]) (st2 := []) (d2 := x_r d (o + 10) (f_fill (f_fg (d (o + 10)) x) (d (o + 10)) ((i + 1)))) rfl rfl (x_p_r2 (by rw [← f_fill_s]; congr 1; unfold f_fg; rw [if_neg h17, if_pos (Int32.not_le.mp h37)])).symm ?_
            exact ih (i + 1) (by omega) (by omega) 
        · skip
          refine a_aload_n C dX6_forgetLamp_20 1 rfl ?_
          refine a_getR C (k := (o + 9)) iX6 (x_sS9 ho) rfl (j := 1) rfl (by decide) (by decide +kernel) dX6_forgetLamp_21 ?_
          refine a_iload_n C dX6_forgetLamp_24 0 rfl ?_
          refine a_iconst C dX6_forgetLamp_25 (v := -1) (by decide) ?_
          refine a_iastN C (k := (o + 10)) (x_sS10 ho) (i := i) rfl (by omega) (by first | decide | omega) dX6_forgetLamp_26 ?_
          refine a_goto C dX6_forgetLamp_27 (tgt := 50) (by decide) ?_
          refine a_iinc C dX6_forgetLamp_50 0 rfl (v := (nI (i + 1))) (x_inc i) (by decide) (lst2 := [(2, .int (nI (i + 1))), (0, .ref (x_b G + (o + 9))), (1, .int x)]) rfl ?_
          refine a_goto C dX6_forgetLamp_53 (tgt := 2) (by decide) ?_
          refine a_sub (lst2 := [(2, .int (nI (i + 1))), (0, .ref (x_b G + (o + 9))), (1, .int x)]) [0, 1, 2] rfl ?_
          refine a_to (lst2 := [(2, .int (nI ((i + 1)))), (0, .ref (x_b G + (o + 9))), (1, .int x)]) (st2 := []) (d2 := x_r d (o + 10) (f_fill (f_fg (d (o + 10)) x) (d (o + 10)) ((i + 1)))) rfl rfl (x_p_r2 (by rw [← f_fill_s]; congr 1; unfold f_fg; rw [if_pos h17])).symm ?_
          exact ih (i + 1) (by omega) (by omega) 
  refine a_sub (lst2 := [(2, .int 0), (0, .ref (x_b G + (o + 9))), (1, .int x)]) [0, 1, 2] rfl ?_
  refine a_toD (d2 := x_r d (o + 10) (f_fill (f_fg (d (o + 10)) x) (d (o + 10)) 0)) (by rw [f_fill_0]; exact x_r_id d (o + 10)) ?_
  exact L2 (n + 1) 0 (by omega) (by omega)

def f_dis (d : xd) (o n : Nat) : xd := x_p (x_r (x_r (x_r d (o + 10) (f_cmp (d (o + 10)) (d (o + 11)) n)) (o + 11) (f_cmp (d (o + 11)) (d (o + 11)) n)) (o + 12) (f_cmp (d (o + 12)) (d (o + 11)) n)) (o + 9) 0 (nI (f_k (d (o + 11)) n))
set_option maxHeartbeats 4000000 in
set_option maxRecDepth 100000 in
theorem c_X6_dismissStruck (l : Launch) (G : xG) (d : xd) (o n : Nat) (ho : x_isS o) (hn : d (o + 9) 0 = nI n) (h6 : n ≤ 6) : x_M G l yX6_dismissStruck wsX6_dismissStruck 1 0 0 [.ref (x_b G + (o + 9))] d none (f_dis d o n) := by
  have iX6 : ∀ w ∈ u_ws RX6 TX6 4, w ∈ wsX6_dismissStruck := by decide +kernel
  refine x_start (cc := cX6_dismissStruck) (maxL := 3) (ret := none) (own := RX6) (by decide) rfl rfl (Nat.le_of_ble_eq_true rfl) (lst := [(0, .ref (x_b G + (o + 9)))]) rfl ?_
  intro p e s m args below meth c C hr hlocks
  refine a_iconst C dX6_dismissStruck_0 (v := 0) (by decide) ?_
  refine a_istore_n C dX6_dismissStruck_1 (by decide) (lst2 := [(1, .int 0), (0, .ref (x_b G + (o + 9)))]) rfl ?_
  refine a_iconst C dX6_dismissStruck_2 (v := 0) (by decide) ?_
  refine a_istore_n C dX6_dismissStruck_3 (by decide) (lst2 := [(2, .int 0), (1, .int 0), (0, .ref (x_b G + (o + 9)))]) rfl ?_
  have L4 : ∀ (j i : Nat), i ≤ n → n < i + j → Ab G p l e (x_rm 1 0 0) s m args below meth c 3 0 0 (MQ below (x_Q G none (f_dis d o n)) args s 0 0 (x_A G)) 4 [(2, .int (nI i)), (1, .int (nI (f_k (d (o + 11)) i))), (0, .ref (x_b G + (o + 9)))] [] (x_r (x_r (x_r d (o + 10) (f_cmp (d (o + 10)) (d (o + 11)) i)) (o + 11) (f_cmp (d (o + 11)) (d (o + 11)) i)) (o + 12) (f_cmp (d (o + 12)) (d (o + 11)) i)) := by
    intro j
    induction j with
    | zero => intro i h1 h2; exact absurd h2 (by omega)
    | succ j ih =>
      intro i hi hj 
      have hk := f_k_le (d (o + 11)) i
      refine a_iload_n C dX6_dismissStruck_4 0 rfl ?_
      refine a_aload_n C dX6_dismissStruck_5 2 rfl ?_
      refine a_getI C (k := (o + 9)) iX6 (x_sS9 ho) rfl (j := 0) rfl (by decide) (by decide +kernel) dX6_dismissStruck_6 ?_
      refine a_top (y := (d (o + 9) 0)) (by rw [x_r_ne2 (by omega), x_r_ne2 (by omega), x_r_ne2 (by omega)]) ?_
      refine a_top (y := (nI n)) hn ?_
      refine a_icmp_ge C dX6_dismissStruck_9 (tgt := 67) (by decide) (fun h9 => ?_) (fun h9 => ?_)
      · skip
        have e := x_ge h9 hi (by omega)
        subst e
        refine a_aload_n C dX6_dismissStruck_67 2 rfl ?_
        refine a_iload_n C dX6_dismissStruck_68 1 rfl ?_
        refine a_putI C (k := (o + 9)) iX6 tyX6_ok nmX6 (x_sS9 ho) rfl (j := 0) rfl (by decide) (by decide +kernel) rfl (ty := .int) (by decide +kernel) rfl rfl dX6_dismissStruck_69 ?_
        exact a_vret C hlocks hr dX6_dismissStruck_72 rfl
      · skip
        have hlt := x_nge h9 hi
        refine a_aload_n C dX6_dismissStruck_12 2 rfl ?_
        refine a_getR C (k := (o + 9)) iX6 (x_sS9 ho) rfl (j := 2) rfl (by decide) (by decide +kernel) dX6_dismissStruck_13 ?_
        refine a_iload_n C dX6_dismissStruck_16 0 rfl ?_
        refine a_ialdN C (k := (o + 11)) (x_sS11 ho) (i := i) rfl (by omega) (by first | decide | omega) dX6_dismissStruck_17 ?_
        refine a_top (y := ((x_r (x_r d (o + 10) (f_cmp (d (o + 10)) (d (o + 11)) i)) (o + 11) (f_cmp (d (o + 11)) (d (o + 11)) i)) (o + 11) i)) (by rw [x_r_ne2 (by omega)]) ?_
        refine a_top (y := (d (o + 11) i)) (by simp [x_r, x_p, upd, f_cmp_at]) ?_
        refine a_iconst C dX6_dismissStruck_18 (v := 2) (by decide) ?_
        refine a_icmp_ge C dX6_dismissStruck_19 (tgt := 61) (by decide) (fun h19 => ?_) (fun h19 => ?_)
        · skip
          refine a_iinc C dX6_dismissStruck_61 0 rfl (v := (nI (i + 1))) (x_inc i) (by decide) (lst2 := [(2, .int (nI (i + 1))), (1, .int (nI (f_k (d (o + 11)) i))), (0, .ref (x_b G + (o + 9)))]) rfl ?_
          refine a_goto C dX6_dismissStruck_64 (tgt := 4) (by decide) ?_
          refine a_sub (lst2 := [(2, .int (nI (i + 1))), (1, .int (nI (f_k (d (o + 11)) i))), (0, .ref (x_b G + (o + 9)))]) [0, 1, 2] rfl ?_
          refine a_to (lst2 := [(2, .int (nI ((i + 1)))), (1, .int (nI (f_k (d (o + 11)) ((i + 1))))), (0, .ref (x_b G + (o + 9)))]) (st2 := []) (d2 := x_r (x_r (x_r d (o + 10) (f_cmp (d (o + 10)) (d (o + 11)) ((i + 1)))) (o + 11) (f_cmp (d (o + 11)) (d (o + 11)) ((i + 1)))) (o + 12) (f_cmp (d (o + 12)) (d (o + 11)) ((i + 1)))) (by rw [f_k, if_neg (Int32.not_lt.mpr h19)]) rfl (by simp only [f_cmp]; rw [if_neg (Int32.not_lt.mpr h19), if_neg (Int32.not_lt.mpr h19), if_neg (Int32.not_lt.mpr h19)]) ?_
          exact ih (i + 1) (by omega) (by omega) 
        · skip
          refine a_aload_n C dX6_dismissStruck_22 2 rfl ?_
          refine a_getR C (k := (o + 9)) iX6 (x_sS9 ho) rfl (j := 1) rfl (by decide) (by decide +kernel) dX6_dismissStruck_23 ?_
          refine a_iload_n C dX6_dismissStruck_26 1 rfl ?_
          refine a_aload_n C dX6_dismissStruck_27 2 rfl ?_
          refine a_getR C (k := (o + 9)) iX6 (x_sS9 ho) rfl (j := 1) rfl (by decide) (by decide +kernel) dX6_dismissStruck_28 ?_
          refine a_iload_n C dX6_dismissStruck_31 0 rfl ?_
          refine a_ialdN C (k := (o + 10)) (x_sS10 ho) (i := i) rfl (by omega) (by first | decide | omega) dX6_dismissStruck_32 ?_
          refine a_top (y := ((x_r d (o + 10) (f_cmp (d (o + 10)) (d (o + 11)) i)) (o + 10) i)) (by rw [x_r_ne2 (by omega), x_r_ne2 (by omega)]) ?_
          refine a_top (y := (d (o + 10) i)) (by simp [x_r, x_p, upd, f_cmp_at]) ?_
          refine a_iastN C (k := (o + 10)) (x_sS10 ho) (i := f_k (d (o + 11)) i) rfl (by omega) (by first | decide | omega) dX6_dismissStruck_33 ?_
          refine a_aload_n C dX6_dismissStruck_34 2 rfl ?_
          refine a_getR C (k := (o + 9)) iX6 (x_sS9 ho) rfl (j := 2) rfl (by decide) (by decide +kernel) dX6_dismissStruck_35 ?_
          refine a_iload_n C dX6_dismissStruck_38 1 rfl ?_
          refine a_aload_n C dX6_dismissStruck_39 2 rfl ?_
          refine a_getR C (k := (o + 9)) iX6 (x_sS9 ho) rfl (j := 2) rfl (by decide) (by decide +kernel) dX6_dismissStruck_40 ?_
          refine a_iload_n C dX6_dismissStruck_43 0 rfl ?_
          refine a_ialdN C (k := (o + 11)) (x_sS11 ho) (i := i) rfl (by omega) (by first | decide | omega) dX6_dismissStruck_44 ?_
          refine a_top (y := ((x_r (x_r d (o + 10) (f_cmp (d (o + 10)) (d (o + 11)) i)) (o + 11) (f_cmp (d (o + 11)) (d (o + 11)) i)) (o + 11) i)) (by rw [x_p_ne (by omega), x_r_ne2 (by omega)]) ?_
          refine a_top (y := (d (o + 11) i)) (by simp [x_r, x_p, upd, f_cmp_at]) ?_
          refine a_iastN C (k := (o + 11)) (x_sS11 ho) (i := f_k (d (o + 11)) i) rfl (by omega) (by first | decide | omega) dX6_dismissStruck_45 ?_
          refine a_aload_n C dX6_dismissStruck_46 2 rfl ?_
          refine a_getR C (k := (o + 9)) iX6 (x_sS9 ho) rfl (j := 3) rfl (by decide) (by decide +kernel) dX6_dismissStruck_47 ?_
          refine a_iload_n C dX6_dismissStruck_50 1 rfl ?_
          refine a_aload_n C dX6_dismissStruck_51 2 rfl ?_
          refine a_getR C (k := (o + 9)) iX6 (x_sS9 ho) rfl (j := 3) rfl (by decide) (by decide +kernel) dX6_dismissStruck_52 ?_
          refine a_iload_n C dX6_dismissStruck_55 0 rfl ?_
          refine a_ialdN C (k := (o + 12)) (x_sS12 ho) (i := i) rfl (by omega) (by first | decide | omega) dX6_dismissStruck_56 ?_
          refine a_top (y := ((x_r (x_r (x_r d (o + 10) (f_cmp (d (o + 10)) (d (o + 11)) i)) (o + 11) (f_cmp (d (o + 11)) (d (o + 11)) i)) (o + 12) (f_cmp (d (o + 12)) (d (o + 11)) i)) (o + 12) i)) (by rw [x_p_ne (by omega), x_p_ne (by omega)]) ?_
          refine a_top (y := (d (o + 12) i)) (by simp [x_r, x_p, upd, f_cmp_at]) ?_
          refine a_iastN C (k := (o + 12)) (x_sS12 ho) (i := f_k (d (o + 11)) i) rfl (by omega) (by first | decide | omega) dX6_dismissStruck_57 ?_
          refine a_iinc C dX6_dismissStruck_58 1 rfl (v := (nI (f_k (d (o + 11)) i + 1))) (x_inc (f_k (d (o + 11)) i)) (by decide) (lst2 := [(1, .int (nI (f_k (d (o + 11)) i + 1))), (2, .int (nI i)), (0, .ref (x_b G + (o + 9)))]) rfl ?_
          refine a_iinc C dX6_dismissStruck_61 1 rfl (v := (nI (i + 1))) (x_inc i) (by decide) (lst2 := [(2, .int (nI (i + 1))), (1, .int (nI (f_k (d (o + 11)) i + 1))), (0, .ref (x_b G + (o + 9)))]) rfl ?_
          refine a_goto C dX6_dismissStruck_64 (tgt := 4) (by decide) ?_
          refine a_sub (lst2 := [(2, .int (nI (i + 1))), (1, .int (nI (f_k (d (o + 11)) i + 1))), (0, .ref (x_b G + (o + 9)))]) [0, 1, 2] rfl ?_
          refine a_to (lst2 := [(2, .int (nI ((i + 1)))), (1, .int (nI (f_k (d (o + 11)) ((i + 1))))), (0, .ref (x_b G + (o + 9)))]) (st2 := []) (d2 := x_r (x_r (x_r d (o + 10) (f_cmp (d (o + 10)) (d (o + 11)) ((i + 1)))) (o + 11) (f_cmp (d (o + 11)) (d (o + 11)) ((i + 1)))) (o + 12) (f_cmp (d (o + 12)) (d (o + 11)) ((i + 1)))) (by rw [f_k, if_pos (Int32.not_le.mp h19)]) rfl (x_three (by omega) (by omega) (by omega) (by rw [f_cmp, if_pos (Int32.not_le.mp h19)]) (by rw [f_cmp, if_pos (Int32.not_le.mp h19)]) (by rw [f_cmp, if_pos (Int32.not_le.mp h19)])).symm ?_
          exact ih (i + 1) (by omega) (by omega) 
  refine a_sub (lst2 := [(2, .int 0), (1, .int 0), (0, .ref (x_b G + (o + 9)))]) [0, 1, 2] rfl ?_
  refine a_toD (d2 := x_r (x_r (x_r d (o + 10) (f_cmp (d (o + 10)) (d (o + 11)) 0)) (o + 11) (f_cmp (d (o + 11)) (d (o + 11)) 0)) (o + 12) (f_cmp (d (o + 12)) (d (o + 11)) 0)) (x_r_id3 d (o + 10) (o + 11) (o + 12)) ?_
  exact L4 (n + 1) 0 (by omega) (by omega)

def f_cpm (d : xd) (o o2 : Nat) : xd := x_r (x_r (x_r (x_p d (o + 9) 0 (d (o2 + 9) 0)) (o + 10) (va_cpy (d (o2 + 10)) (d (o + 10)) 0 0 6)) (o + 11) (va_cpy (d (o2 + 11)) (d (o + 11)) 0 0 6)) (o + 12) (va_cpy (d (o2 + 12)) (d (o + 12)) 0 0 6)
set_option maxHeartbeats 4000000 in
set_option maxRecDepth 100000 in
theorem c_X6_copyFrom (l : Launch) (G : xG) (d : xd) (o o2 : Nat) (ho : x_isS o) (ho2 : x_isS o2) (hne : o ≠ o2) : x_M G l yX6_copyFrom wsX6_copyFrom 1 0 0 [.ref (x_b G + (o + 9)), .ref (x_b G + (o2 + 9))] d none (f_cpm d o o2) := by
  have hoo := x_isS_off ho ho2 hne
  have iX6 : ∀ w ∈ u_ws RX6 TX6 4, w ∈ wsX6_copyFrom := by decide +kernel
  refine x_start (cc := cX6_copyFrom) (maxL := 2) (ret := none) (own := RX6) (by decide) rfl rfl (Nat.le_of_ble_eq_true rfl) (lst := [(0, .ref (x_b G + (o + 9))), (1, .ref (x_b G + (o2 + 9)))]) rfl ?_
  intro p e s m args below meth c C hr hlocks
  refine a_aload_n C dX6_copyFrom_0 0 rfl ?_
  refine a_aload_n C dX6_copyFrom_1 1 rfl ?_
  refine a_getI C (k := (o2 + 9)) iX6 (x_sS9 ho2) rfl (j := 0) rfl (by decide) (by decide +kernel) dX6_copyFrom_2 ?_
  refine a_putI C (k := (o + 9)) iX6 tyX6_ok nmX6 (x_sS9 ho) rfl (j := 0) rfl (by decide) (by decide +kernel) rfl (ty := .int) (by decide +kernel) rfl rfl dX6_copyFrom_5 ?_
  refine a_aload_n C dX6_copyFrom_8 1 rfl ?_
  refine a_getR C (k := (o2 + 9)) iX6 (x_sS9 ho2) rfl (j := 1) rfl (by decide) (by decide +kernel) dX6_copyFrom_9 ?_
  refine a_iconst C dX6_copyFrom_12 (v := 0) (by decide) ?_
  refine a_aload_n C dX6_copyFrom_13 0 rfl ?_
  refine a_getR C (k := (o + 9)) iX6 (x_sS9 ho) rfl (j := 1) rfl (by decide) (by decide +kernel) dX6_copyFrom_14 ?_
  refine a_iconst C dX6_copyFrom_17 (v := 0) (by decide) ?_
  refine a_bipush C dX6_copyFrom_18 (v := 6) (by decide) ?_
  refine a_copyiN C (k0 := (o2 + 10)) (k1 := (o + 10)) (by decide +kernel) (by decide +kernel) (by decide +kernel) (by decide +kernel) (x_sS10 ho2) (x_sS10 ho) (sp := 0) (dp := 0) (n := 6) rfl rfl rfl (by decide) (by decide) (by decide) (by decide) (f := d (o2 + 10)) (g := d (o + 10)) (by rw [x_p_ne (by omega)]) (by rw [x_p_ne (by omega)]) (Nat.le_of_ble_eq_true rfl) (Nat.le_of_ble_eq_true rfl) dX6_copyFrom_20 ?_
  refine a_aload_n C dX6_copyFrom_23 1 rfl ?_
  refine a_getR C (k := (o2 + 9)) iX6 (x_sS9 ho2) rfl (j := 2) rfl (by decide) (by decide +kernel) dX6_copyFrom_24 ?_
  refine a_iconst C dX6_copyFrom_27 (v := 0) (by decide) ?_
  refine a_aload_n C dX6_copyFrom_28 0 rfl ?_
  refine a_getR C (k := (o + 9)) iX6 (x_sS9 ho) rfl (j := 2) rfl (by decide) (by decide +kernel) dX6_copyFrom_29 ?_
  refine a_iconst C dX6_copyFrom_32 (v := 0) (by decide) ?_
  refine a_bipush C dX6_copyFrom_33 (v := 6) (by decide) ?_
  refine a_copyiN C (k0 := (o2 + 11)) (k1 := (o + 11)) (by decide +kernel) (by decide +kernel) (by decide +kernel) (by decide +kernel) (x_sS11 ho2) (x_sS11 ho) (sp := 0) (dp := 0) (n := 6) rfl rfl rfl (by decide) (by decide) (by decide) (by decide) (f := d (o2 + 11)) (g := d (o + 11)) (by rw [x_r_ne2 (by omega), x_p_ne (by omega)]) (by rw [x_r_ne2 (by omega), x_p_ne (by omega)]) (Nat.le_of_ble_eq_true rfl) (Nat.le_of_ble_eq_true rfl) dX6_copyFrom_35 ?_
  refine a_aload_n C dX6_copyFrom_38 1 rfl ?_
  refine a_getR C (k := (o2 + 9)) iX6 (x_sS9 ho2) rfl (j := 3) rfl (by decide) (by decide +kernel) dX6_copyFrom_39 ?_
  refine a_iconst C dX6_copyFrom_42 (v := 0) (by decide) ?_
  refine a_aload_n C dX6_copyFrom_43 0 rfl ?_
  refine a_getR C (k := (o + 9)) iX6 (x_sS9 ho) rfl (j := 3) rfl (by decide) (by decide +kernel) dX6_copyFrom_44 ?_
  refine a_iconst C dX6_copyFrom_47 (v := 0) (by decide) ?_
  refine a_bipush C dX6_copyFrom_48 (v := 6) (by decide) ?_
  refine a_copyiN C (k0 := (o2 + 12)) (k1 := (o + 12)) (by decide +kernel) (by decide +kernel) (by decide +kernel) (by decide +kernel) (x_sS12 ho2) (x_sS12 ho) (sp := 0) (dp := 0) (n := 6) rfl rfl rfl (by decide) (by decide) (by decide) (by decide) (f := d (o2 + 12)) (g := d (o + 12)) (by rw [x_r_ne2 (by omega), x_r_ne2 (by omega), x_p_ne (by omega)]) (by rw [x_r_ne2 (by omega), x_r_ne2 (by omega), x_p_ne (by omega)]) (Nat.le_of_ble_eq_true rfl) (Nat.le_of_ble_eq_true rfl) dX6_copyFrom_50 ?_
  exact a_vret C hlocks hr dX6_copyFrom_53 rfl

def f_cpb (d : xd) (o o2 : Nat) : xd := x_p (x_p (x_p (x_p (x_p (x_p (x_p (x_p (x_p (x_p d (o + 13) 0 (d (o2 + 13) 0)) (o + 13) 1 (d (o2 + 13) 1)) (o + 13) 2 (d (o2 + 13) 2)) (o + 13) 3 (d (o2 + 13) 3)) (o + 13) 4 (d (o2 + 13) 4)) (o + 13) 5 (d (o2 + 13) 5)) (o + 13) 6 (d (o2 + 13) 6)) (o + 13) 7 (d (o2 + 13) 7)) (o + 13) 8 (d (o2 + 13) 8)) (o + 13) 9 (d (o2 + 13) 9)
set_option maxHeartbeats 4000000 in
set_option maxRecDepth 100000 in
theorem c_X2_copyFrom (l : Launch) (G : xG) (d : xd) (o o2 : Nat) (ho : x_isS o) (ho2 : x_isS o2) (hne : o ≠ o2) : x_M G l yX2_copyFrom wsX2_copyFrom 1 0 0 [.ref (x_b G + (o + 13)), .ref (x_b G + (o2 + 13))] d none (f_cpb d o o2) := by
  have hoo := x_isS_off ho ho2 hne
  have iX2 : ∀ w ∈ u_ws RX2 TX2 10, w ∈ wsX2_copyFrom := by decide +kernel
  refine x_start (cc := cX2_copyFrom) (maxL := 2) (ret := none) (own := RX2) (by decide) rfl rfl (Nat.le_of_ble_eq_true rfl) (lst := [(0, .ref (x_b G + (o + 13))), (1, .ref (x_b G + (o2 + 13)))]) rfl ?_
  intro p e s m args below meth c C hr hlocks
  refine a_aload_n C dX2_copyFrom_0 0 rfl ?_
  refine a_aload_n C dX2_copyFrom_1 1 rfl ?_
  refine a_getI C (k := (o2 + 13)) iX2 (x_sS13 ho2) rfl (j := 0) rfl (by decide) (by decide +kernel) dX2_copyFrom_2 ?_
  refine a_putI C (k := (o + 13)) iX2 tyX2_ok nmX2 (x_sS13 ho) rfl (j := 0) rfl (by decide) (by decide +kernel) rfl (ty := .int) (by decide +kernel) rfl rfl dX2_copyFrom_5 ?_
  refine a_aload_n C dX2_copyFrom_8 0 rfl ?_
  refine a_aload_n C dX2_copyFrom_9 1 rfl ?_
  refine a_getI C (k := (o2 + 13)) iX2 (x_sS13 ho2) rfl (j := 1) rfl (by decide) (by decide +kernel) dX2_copyFrom_10 ?_
  refine a_top (y := (d (o2 + 13) 1)) (by rw [x_p_ne (by omega)]) ?_
  refine a_putI C (k := (o + 13)) iX2 tyX2_ok nmX2 (x_sS13 ho) rfl (j := 1) rfl (by decide) (by decide +kernel) rfl (ty := .int) (by decide +kernel) rfl rfl dX2_copyFrom_13 ?_
  refine a_aload_n C dX2_copyFrom_16 0 rfl ?_
  refine a_aload_n C dX2_copyFrom_17 1 rfl ?_
  refine a_getI C (k := (o2 + 13)) iX2 (x_sS13 ho2) rfl (j := 2) rfl (by decide) (by decide +kernel) dX2_copyFrom_18 ?_
  refine a_top (y := (d (o2 + 13) 2)) (by rw [x_p_ne (by omega), x_p_ne (by omega)]) ?_
  refine a_putI C (k := (o + 13)) iX2 tyX2_ok nmX2 (x_sS13 ho) rfl (j := 2) rfl (by decide) (by decide +kernel) rfl (ty := .int) (by decide +kernel) rfl rfl dX2_copyFrom_21 ?_
  refine a_aload_n C dX2_copyFrom_24 0 rfl ?_
  refine a_aload_n C dX2_copyFrom_25 1 rfl ?_
  refine a_getI C (k := (o2 + 13)) iX2 (x_sS13 ho2) rfl (j := 3) rfl (by decide) (by decide +kernel) dX2_copyFrom_26 ?_
  refine a_top (y := (d (o2 + 13) 3)) (by rw [x_p_ne (by omega), x_p_ne (by omega), x_p_ne (by omega)]) ?_
  refine a_putI C (k := (o + 13)) iX2 tyX2_ok nmX2 (x_sS13 ho) rfl (j := 3) rfl (by decide) (by decide +kernel) rfl (ty := .int) (by decide +kernel) rfl rfl dX2_copyFrom_29 ?_
  refine a_aload_n C dX2_copyFrom_32 0 rfl ?_
  refine a_aload_n C dX2_copyFrom_33 1 rfl ?_
  refine a_getI C (k := (o2 + 13)) iX2 (x_sS13 ho2) rfl (j := 4) rfl (by decide) (by decide +kernel) dX2_copyFrom_34 ?_
  refine a_top (y := (d (o2 + 13) 4)) (by rw [x_p_ne (by omega), x_p_ne (by omega), x_p_ne (by omega), x_p_ne (by omega)]) ?_
  refine a_putI C (k := (o + 13)) iX2 tyX2_ok nmX2 (x_sS13 ho) rfl (j := 4) rfl (by decide) (by decide +kernel) rfl (ty := .int) (by decide +kernel) rfl rfl dX2_copyFrom_37 ?_
  refine a_aload_n C dX2_copyFrom_40 0 rfl ?_
  refine a_aload_n C dX2_copyFrom_41 1 rfl ?_
  refine a_getI C (k := (o2 + 13)) iX2 (x_sS13 ho2) rfl (j := 5) rfl (by decide) (by decide +kernel) dX2_copyFrom_42 ?_
  refine a_top (y := (d (o2 + 13) 5)) (by rw [x_p_ne (by omega), x_p_ne (by omega), x_p_ne (by omega), x_p_ne (by omega), x_p_ne (by omega)]) ?_
  refine a_putI C (k := (o + 13)) iX2 tyX2_ok nmX2 (x_sS13 ho) rfl (j := 5) rfl (by decide) (by decide +kernel) rfl (ty := .int) (by decide +kernel) rfl rfl dX2_copyFrom_45 ?_
  refine a_aload_n C dX2_copyFrom_48 0 rfl ?_
  refine a_aload_n C dX2_copyFrom_49 1 rfl ?_
  refine a_getI C (k := (o2 + 13)) iX2 (x_sS13 ho2) rfl (j := 6) rfl (by decide) (by decide +kernel) dX2_copyFrom_50 ?_
  refine a_top (y := (d (o2 + 13) 6)) (by rw [x_p_ne (by omega), x_p_ne (by omega), x_p_ne (by omega), x_p_ne (by omega), x_p_ne (by omega), x_p_ne (by omega)]) ?_
  refine a_putI C (k := (o + 13)) iX2 tyX2_ok nmX2 (x_sS13 ho) rfl (j := 6) rfl (by decide) (by decide +kernel) rfl (ty := .int) (by decide +kernel) rfl rfl dX2_copyFrom_53 ?_
  refine a_aload_n C dX2_copyFrom_56 0 rfl ?_
  refine a_aload_n C dX2_copyFrom_57 1 rfl ?_
  refine a_getI C (k := (o2 + 13)) iX2 (x_sS13 ho2) rfl (j := 7) rfl (by decide) (by decide +kernel) dX2_copyFrom_58 ?_
  refine a_top (y := (d (o2 + 13) 7)) (by rw [x_p_ne (by omega), x_p_ne (by omega), x_p_ne (by omega), x_p_ne (by omega), x_p_ne (by omega), x_p_ne (by omega), x_p_ne (by omega)]) ?_
  refine a_putI C (k := (o + 13)) iX2 tyX2_ok nmX2 (x_sS13 ho) rfl (j := 7) rfl (by decide) (by decide +kernel) rfl (ty := .int) (by decide +kernel) rfl rfl dX2_copyFrom_61 ?_
  refine a_aload_n C dX2_copyFrom_64 0 rfl ?_
  refine a_aload_n C dX2_copyFrom_65 1 rfl ?_
  refine a_getI C (k := (o2 + 13)) iX2 (x_sS13 ho2) rfl (j := 8) rfl (by decide) (by decide +kernel) dX2_copyFrom_66 ?_
  refine a_top (y := (d (o2 + 13) 8)) (by rw [x_p_ne (by omega), x_p_ne (by omega), x_p_ne (by omega), x_p_ne (by omega), x_p_ne (by omega), x_p_ne (by omega), x_p_ne (by omega), x_p_ne (by omega)]) ?_
  refine a_putI C (k := (o + 13)) iX2 tyX2_ok nmX2 (x_sS13 ho) rfl (j := 8) rfl (by decide) (by decide +kernel) rfl (ty := .int) (by decide +kernel) rfl rfl dX2_copyFrom_69 ?_
  refine a_aload_n C dX2_copyFrom_72 0 rfl ?_
  refine a_aload_n C dX2_copyFrom_73 1 rfl ?_
  refine a_getI C (k := (o2 + 13)) iX2 (x_sS13 ho2) rfl (j := 9) rfl (by decide) (by decide +kernel) dX2_copyFrom_74 ?_
  refine a_top (y := (d (o2 + 13) 9)) (by rw [x_p_ne (by omega), x_p_ne (by omega), x_p_ne (by omega), x_p_ne (by omega), x_p_ne (by omega), x_p_ne (by omega), x_p_ne (by omega), x_p_ne (by omega), x_p_ne (by omega)]) ?_
  refine a_putI C (k := (o + 13)) iX2 tyX2_ok nmX2 (x_sS13 ho) rfl (j := 9) rfl (by decide) (by decide +kernel) rfl (ty := .int) (by decide +kernel) rfl rfl dX2_copyFrom_77 ?_
  exact a_vret C hlocks hr dX2_copyFrom_80 rfl


