/-! plain functions -/
def f_sum (f : Nat → Int32) : Nat → Int32
  | 0 => 0
  | n + 1 => f_sum f n + f n
theorem x_bi_t {c : Prop} [Decidable c] (h : c) : x_bi c = 1 := if_pos h
theorem x_bi_f {c : Prop} [Decidable c] (h : ¬ c) : x_bi c = 0 := if_neg h
theorem x_ge {i n : Nat} (h : nI n ≤ nI i) (hi : i ≤ n) (hn : n < 1000) : i = n := by
  have := (nI_leI (by omega) (by omega)).mp h
  omega
theorem x_nge {i n : Nat} (h : ¬ nI n ≤ nI i) (hi : i ≤ n) : i < n := by
  rcases Nat.lt_or_ge i n with q | q
  · exact q
  · have e : i = n := by omega
    subst e
    exact absurd (Int32.le_refl _) h

set_option maxHeartbeats 4000000 in
set_option maxRecDepth 100000 in
theorem c_X5_has (l : Launch) (G : xG) (d : xd) (o : Nat) (ho : x_isS o) (x : Int32) : x_M G l yX5_has wsX5_has 1 0 0 [.ref (x_b G + (o + 1)), .int x] d (some (.int (x_bi (0 ≤ x ∧ x < d (o + 1) 0)))) d := by
  have iX5 : ∀ w ∈ u_ws RX5 TX5 8, w ∈ wsX5_has := by decide +kernel
  refine x_start (cc := cX5_has) (maxL := 2) (ret := (some .boolean)) (own := RX5) (by decide) rfl rfl (Nat.le_of_ble_eq_true rfl) (lst := [(0, .ref (x_b G + (o + 1))), (1, .int x)]) rfl ?_
  intro p e s m args below meth c C hr hlocks
  refine a_iload_n C dX5_has_0 1 rfl ?_
  refine a_if_lt C dX5_has_1 (tgt := 16) (by decide) (fun h1 => ?_) (fun h1 => ?_)
  · skip
    refine a_iconst C dX5_has_16 (v := 0) (by decide) ?_
    exact a_zret C hlocks hr rfl dX5_has_17 (x_bi_f (by first | exact fun h => absurd h.1 (Int32.not_le.mpr h1) | exact fun h => absurd h.2 (Int32.not_lt.mpr h9))).symm rfl
  · skip
    refine a_iload_n C dX5_has_4 1 rfl ?_
    refine a_aload_n C dX5_has_5 0 rfl ?_
    refine a_getI C (k := (o + 1)) iX5 (x_sS1 ho) rfl (j := 0) rfl (by decide) (by decide +kernel) dX5_has_6 ?_
    refine a_icmp_ge C dX5_has_9 (tgt := 16) (by decide) (fun h9 => ?_) (fun h9 => ?_)
    · skip
      refine a_iconst C dX5_has_16 (v := 0) (by decide) ?_
      exact a_zret C hlocks hr rfl dX5_has_17 (x_bi_f (by first | exact fun h => absurd h.1 (Int32.not_le.mpr h1) | exact fun h => absurd h.2 (Int32.not_lt.mpr h9))).symm rfl
    · skip
      refine a_iconst C dX5_has_12 (v := 1) (by decide) ?_
      refine a_goto C dX5_has_13 (tgt := 17) (by decide) ?_
      exact a_zret C hlocks hr rfl dX5_has_17 (x_bi_t ⟨Int32.not_lt.mp h1, Int32.not_le.mp h9⟩).symm rfl

set_option maxHeartbeats 4000000 in
set_option maxRecDepth 100000 in
theorem c_X5_sumOf (l : Launch) (G : xG) (d : xd) (o n : Nat) (ho : x_isS o) (hn : d (o + 1) 0 = nI n) (h8 : n ≤ 8) (k : Nat) (hk : x_sh[k]? = some (.inr (0, 8))) : x_M G l yX5_sumOf wsX5_sumOf 1 0 0 [.ref (x_b G + (o + 1)), .ref (x_b G + k)] d (some (.int (f_sum (d k) n))) d := by
  have iX5 : ∀ w ∈ u_ws RX5 TX5 8, w ∈ wsX5_sumOf := by decide +kernel
  refine x_start (cc := cX5_sumOf) (maxL := 4) (ret := (some .int)) (own := RX5) (by decide) rfl rfl (Nat.le_of_ble_eq_true rfl) (lst := [(0, .ref (x_b G + (o + 1))), (1, .ref (x_b G + k))]) rfl ?_
  intro p e s m args below meth c C hr hlocks
  refine a_iconst C dX5_sumOf_0 (v := 0) (by decide) ?_
  refine a_istore_n C dX5_sumOf_1 (by decide) (lst2 := [(2, .int 0), (0, .ref (x_b G + (o + 1))), (1, .ref (x_b G + k))]) rfl ?_
  refine a_iconst C dX5_sumOf_2 (v := 0) (by decide) ?_
  refine a_istore_n C dX5_sumOf_3 (by decide) (lst2 := [(3, .int 0), (2, .int 0), (0, .ref (x_b G + (o + 1))), (1, .ref (x_b G + k))]) rfl ?_
  have L4 : ∀ (j i : Nat), i ≤ n → n < i + j → Ab G p l e (x_rm 1 0 0) s m args below meth c 4 0 0 (MQ below (x_Q G (some (.int (f_sum (d k) n))) d) args s 0 0 (x_A G)) 4 [(3, .int (nI i)), (2, .int (f_sum (d k) i)), (0, .ref (x_b G + (o + 1))), (1, .ref (x_b G + k))] [] d := by
    intro j
    induction j with
    | zero => intro i h1 h2; exact absurd h2 (by omega)
    | succ j ih =>
      intro i hi hj 
      refine a_iload_n C dX5_sumOf_4 0 rfl ?_
      refine a_aload_n C dX5_sumOf_5 2 rfl ?_
      refine a_getI C (k := (o + 1)) iX5 (x_sS1 ho) rfl (j := 0) rfl (by decide) (by decide +kernel) dX5_sumOf_6 ?_
      refine a_top (y := (nI n)) hn ?_
      refine a_icmp_ge C dX5_sumOf_9 (tgt := 30) (by decide) (fun h9 => ?_) (fun h9 => ?_)
      · skip
        have e := x_ge h9 hi (by omega)
        subst e
        refine a_iload_n C dX5_sumOf_30 1 rfl ?_
        exact a_iret C hlocks hr dX5_sumOf_31 rfl rfl
      · skip
        have hlt := x_nge h9 hi
        refine a_iload_n C dX5_sumOf_12 0 rfl ?_
        refine a_aload_n C dX5_sumOf_13 3 rfl ?_
        refine a_alen C (k := k) hk (v := 8) rfl dX5_sumOf_14 ?_
        refine a_icmp_ge C dX5_sumOf_15 (tgt := 30) (by decide) (fun h => absurd h (Int32.not_le.mpr (nI_lt (show i < 8 by omega) (by decide)))) (fun h15 => ?_)
        refine a_iload_n C dX5_sumOf_18 1 rfl ?_
        refine a_aload_n C dX5_sumOf_19 3 rfl ?_
        refine a_iload_n C dX5_sumOf_20 0 rfl ?_
        refine a_ialdN C (k := k) hk (i := i) rfl (by omega) (by decide) dX5_sumOf_21 ?_
        refine a_iadd C dX5_sumOf_22 ?_
        refine a_istore_n C dX5_sumOf_23 (by decide) (lst2 := [(2, .int ((f_sum (d k) i) + (d k i))), (3, .int (nI i)), (0, .ref (x_b G + (o + 1))), (1, .ref (x_b G + k))]) rfl ?_
        refine a_iinc C dX5_sumOf_24 1 rfl (v := (nI (i + 1))) (x_inc i) (by decide) (lst2 := [(3, .int (nI (i + 1))), (2, .int ((f_sum (d k) i) + (d k i))), (0, .ref (x_b G + (o + 1))), (1, .ref (x_b G + k))]) rfl ?_
        refine a_goto C dX5_sumOf_27 (tgt := 4) (by decide) ?_
        refine a_sub [0, 1, 2, 3] rfl ?_
        exact ih (i + 1) (by omega) (by omega) 
  refine a_sub [0, 1, 2, 3] rfl ?_
  exact L4 (n + 1) 0 (by omega) (by omega) 

