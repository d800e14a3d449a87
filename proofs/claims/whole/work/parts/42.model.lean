theorem x_p_r4 {d : xd} {k i j : Nat} {f h : Nat → Int32} {u v : Int32} (e : upd (upd f i u) j v = h) : x_p (x_p (x_r d k f) k i u) k j v = x_r d k h := by
  rw [x_p_r2 rfl]
  exact x_p_r2 e
theorem x_gt_sub {a b : Nat} (ha : a < 2 ^ 30) (hb : b < 2 ^ 30) : 0 < nI a - nI b ↔ b < a := by
  have e := pk_sub_toInt ha hb
  have z : (0 : Int32).toInt = 0 := rfl
  rw [Int32.lt_iff_toInt_lt, e, z]
  omega
theorem x_eq_sub {a b : Nat} (ha : a < 2 ^ 30) (hb : b < 2 ^ 30) : nI a - nI b = 0 ↔ a = b := by
  have e := pk_sub_toInt ha hb
  constructor
  · intro h
    rw [h] at e
    have z : (0 : Int32).toInt = 0 := rfl
    rw [z] at e
    omega
  · rintro rfl
    rw [pk_sub (Nat.le_refl a), Nat.sub_self]
    rfl
/-- how many of the first k stand ahead of i by the numbers r -/
def g_ah (r : Nat → Nat) (i : Nat) : Nat → Nat
  | 0 => 0
  | k + 1 => if r i < r k ∨ (r k = r i ∧ k < i) then g_ah r i k + 1 else g_ah r i k
theorem g_ah_le (r : Nat → Nat) (i : Nat) : ∀ k, g_ah r i k ≤ k
  | 0 => Nat.le_refl 0
  | k + 1 => by
    have h := g_ah_le r i k
    rw [g_ah]
    split <;> omega
def g_por (a0 : Nat) (sh : Nat → Nat) (n i : Nat) : Nat := f_qt a0 sh n i + (if g_ah (f_rt a0 sh n) i n < a0 - f_sn (f_qt a0 sh n) n then 1 else 0)
def g_row (z : Nat → Int32) (w : Nat) : Nat → Int32 := fun j => z (w + j)
set_option maxHeartbeats 1000000 in
set_option maxRecDepth 100000 in
theorem c_M_allShares (l : Launch) (G : xG) (d : xd) (n : Nat) (hn : d 176 0 = nI n) (h8 : n ≤ 8) : x_M G l yX12_allShares wsX12_allShares 2 0 0 [.ref (x_b G + 175)] d (some (.int (f_sum (g_row (d 176) 14) n))) d := by
  have iX12 : ∀ w ∈ u_ws RX12 TX12 16, w ∈ wsX12_allShares := by decide +kernel
  refine x_start (cc := cX12_allShares) (maxL := 3) (ret := (some .int)) (own := RX12) (by decide) rfl rfl (Nat.le_of_ble_eq_true rfl) (lst := [(0, .ref (x_b G + 175))]) rfl ?_
  intro p e s m args below meth c C hr hlocks
  refine a_iconst C dX12_allShares_0 (v := 0) (by decide) ?_
  refine a_istore_n C dX12_allShares_1 (by decide) (lst2 := [(1, .int 0), (0, .ref (x_b G + 175))]) rfl ?_
  refine a_iconst C dX12_allShares_2 (v := 0) (by decide) ?_
  refine a_istore_n C dX12_allShares_3 (by decide) (lst2 := [(2, .int 0), (1, .int 0), (0, .ref (x_b G + 175))]) rfl ?_
  have L4 : ∀ (j i : Nat), i ≤ n → n < i + j → Ab G p l e (x_rm 2 0 0) s m args below meth c 3 0 0 (MQ below (x_Q G (some (.int (f_sum (g_row (d 176) 14) n))) d) args s 0 0 (x_A G)) 4 [(2, .int (nI i)), (1, .int (f_sum (g_row (d 176) 14) i)), (0, .ref (x_b G + 175))] [] d := by
    intro j
    induction j with
    | zero => intro i h1 h2; exact absurd h2 (by omega)
    | succ j ih =>
      intro i hi hj 
      refine a_iload_n C dX12_allShares_4 0 rfl ?_
      refine a_aload_n C dX12_allShares_5 2 rfl ?_
      refine a_getR C (k := 175) iX12 x_k175 rfl (j := 0) rfl (by decide) (by decide +kernel) dX12_allShares_6 ?_
      refine a_iconst C dX12_allShares_9 (v := 0) (by decide) ?_
      refine a_ialdN C (k := 176) x_k176 (i := 0) rfl (by decide) (by first | decide | omega) dX12_allShares_10 ?_
      refine a_top (y := (nI n)) hn ?_
      refine a_icmp_ge C dX12_allShares_11 (tgt := 32) (by decide) (fun h11 => ?_) (fun h11 => ?_)
      · skip
        have e := x_ge h11 hi (by omega)
        have e9 := e.symm
        subst e9
        refine a_iload_n C dX12_allShares_32 1 rfl ?_
        exact a_iret C hlocks hr dX12_allShares_33 rfl rfl
      · skip
        have hlt := x_nge h11 hi
        refine a_iload_n C dX12_allShares_14 1 rfl ?_
        refine a_aload_n C dX12_allShares_15 2 rfl ?_
        refine a_getR C (k := 175) iX12 x_k175 rfl (j := 0) rfl (by decide) (by decide +kernel) dX12_allShares_16 ?_
        refine a_bipush C dX12_allShares_19 (v := 14) (by decide) ?_
        refine a_iload_n C dX12_allShares_21 0 rfl ?_
        refine a_iadd C dX12_allShares_22 ?_
        refine a_ialdN C (k := 176) x_k176 (i := 14 + i) (x_add2 (a := 14) (b := i) rfl rfl) (by omega) (by first | decide | omega) dX12_allShares_23 ?_
        refine a_iadd C dX12_allShares_24 ?_
        refine a_istore_n C dX12_allShares_25 (by decide) (lst2 := [(1, .int ((f_sum (g_row (d 176) 14) i) + (d 176 (14 + i)))), (2, .int (nI i)), (0, .ref (x_b G + 175))]) rfl ?_
        refine a_iinc C dX12_allShares_26 1 rfl (v := (nI (i + 1))) (x_inc i) (by decide) (lst2 := [(2, .int (nI (i + 1))), (1, .int ((f_sum (g_row (d 176) 14) i) + (d 176 (14 + i)))), (0, .ref (x_b G + 175))]) rfl ?_
        refine a_goto C dX12_allShares_29 (tgt := 4) (by decide) ?_
        refine a_sub (lst2 := [(2, .int (nI (i + 1))), (1, .int ((f_sum (g_row (d 176) 14) i) + (d 176 (14 + i)))), (0, .ref (x_b G + 175))]) [0, 1, 2] rfl ?_
        exact ih (i + 1) (by omega) (by omega) 
  refine a_sub (lst2 := [(2, .int 0), (1, .int 0), (0, .ref (x_b G + 175))]) [0, 1, 2] rfl ?_
  exact L4 (n + 1) 0 (by omega) (by omega) 

set_option maxHeartbeats 1000000 in
set_option maxRecDepth 100000 in
theorem c_M_quota (l : Launch) (G : xG) (d : xd) (a0 : Nat) (sh : Nat → Nat) (i n : Nat) (hn : d 176 0 = nI n) (h8 : n ≤ 8) (hi : i < n) (hs : ∀ j, j < n → d 176 (14 + j) = nI (sh j)) (hs9 : ∀ j, j < n → sh j ≤ 9) (hS : 1 ≤ f_sn sh n) (ha0 : a0 < 100000) : x_M G l yX12_quota wsX12_quota 3 0 0 [.ref (x_b G + 175), .int (nI i), .int (nI a0)] d (some (.int (nI (f_qt a0 sh n i)))) d := by
  have hS9 := x_sn_le n hs9
  have hsi := hs9 i hi
  have hp : a0 * sh i ≤ a0 * 9 := Nat.mul_le_mul_left _ hsi
  have iX12 : ∀ w ∈ u_ws RX12 TX12 16, w ∈ wsX12_quota := by decide +kernel
  refine x_start (cc := cX12_quota) (maxL := 3) (ret := (some .int)) (own := RX12) (by decide) rfl rfl (Nat.le_of_ble_eq_true rfl) (lst := [(0, .ref (x_b G + 175)), (1, .int (nI i)), (2, .int (nI a0))]) rfl ?_
  intro p e s m args below meth c C hr hlocks
  refine a_iload_n C dX12_quota_0 2 rfl ?_
  refine a_aload_n C dX12_quota_1 0 rfl ?_
  refine a_getR C (k := 175) iX12 x_k175 rfl (j := 0) rfl (by decide) (by decide +kernel) dX12_quota_2 ?_
  refine a_bipush C dX12_quota_5 (v := 14) (by decide) ?_
  refine a_iload_n C dX12_quota_7 1 rfl ?_
  refine a_iadd C dX12_quota_8 ?_
  refine a_ialdN C (k := 176) x_k176 (i := 14 + i) (x_add2 (a := 14) (b := i) rfl rfl) (by omega) (by first | decide | omega) dX12_quota_9 ?_
  refine a_top (y := (nI (sh i))) (hs i hi) ?_
  refine a_imul C dX12_quota_10 ?_
  refine a_top (y := (nI (a0 * sh i))) (pk_mul _ _) ?_
  refine a_aload_n C dX12_quota_11 0 rfl ?_
  refine a_callV C (k := 175) (As := []) (rest := [.int (nI (a0 * sh i))]) (c_M_allShares l G d n hn h8) (cwV 0 C.1.2.2.2.2 gX12_quota_X12_allShares rfl rfl rfl (by decide +kernel) ⟨Nat.le_of_ble_eq_true rfl, Nat.le_of_ble_eq_true rfl⟩) x_k175 (q := (RX12, TX12, 16)) rfl rfl rfl rfl (Nat.le_of_ble_eq_true rfl) dX12_quota_12 ⟨Nat.le_of_ble_eq_true rfl, Nat.le_of_ble_eq_true rfl⟩ ?_
  refine a_top (y := nI (f_sn sh n)) (x_sumN n hs) ?_
  refine a_idiv C dX12_quota_15 (nI_ne0 (by omega) (by omega)) ?_
  refine a_top (y := (nI (f_qt a0 sh n i))) (pk_div (by omega) (by omega) (by omega)) ?_
  exact a_iret C hlocks hr dX12_quota_16 rfl rfl

set_option maxHeartbeats 1000000 in
set_option maxRecDepth 100000 in
theorem c_M_remainder (l : Launch) (G : xG) (d : xd) (a0 : Nat) (sh : Nat → Nat) (i n : Nat) (hn : d 176 0 = nI n) (h8 : n ≤ 8) (hi : i < n) (hs : ∀ j, j < n → d 176 (14 + j) = nI (sh j)) (hs9 : ∀ j, j < n → sh j ≤ 9) (hS : 1 ≤ f_sn sh n) (ha0 : a0 < 100000) : x_M G l yX12_remainder wsX12_remainder 3 0 0 [.ref (x_b G + 175), .int (nI i), .int (nI a0)] d (some (.int (nI (f_rt a0 sh n i)))) d := by
  have hS9 := x_sn_le n hs9
  have hsi := hs9 i hi
  have hp : a0 * sh i ≤ a0 * 9 := Nat.mul_le_mul_left _ hsi
  have iX12 : ∀ w ∈ u_ws RX12 TX12 16, w ∈ wsX12_remainder := by decide +kernel
  refine x_start (cc := cX12_remainder) (maxL := 3) (ret := (some .int)) (own := RX12) (by decide) rfl rfl (Nat.le_of_ble_eq_true rfl) (lst := [(0, .ref (x_b G + 175)), (1, .int (nI i)), (2, .int (nI a0))]) rfl ?_
  intro p e s m args below meth c C hr hlocks
  refine a_iload_n C dX12_remainder_0 2 rfl ?_
  refine a_aload_n C dX12_remainder_1 0 rfl ?_
  refine a_getR C (k := 175) iX12 x_k175 rfl (j := 0) rfl (by decide) (by decide +kernel) dX12_remainder_2 ?_
  refine a_bipush C dX12_remainder_5 (v := 14) (by decide) ?_
  refine a_iload_n C dX12_remainder_7 1 rfl ?_
  refine a_iadd C dX12_remainder_8 ?_
  refine a_ialdN C (k := 176) x_k176 (i := 14 + i) (x_add2 (a := 14) (b := i) rfl rfl) (by omega) (by first | decide | omega) dX12_remainder_9 ?_
  refine a_top (y := (nI (sh i))) (hs i hi) ?_
  refine a_imul C dX12_remainder_10 ?_
  refine a_top (y := (nI (a0 * sh i))) (pk_mul _ _) ?_
  refine a_aload_n C dX12_remainder_11 0 rfl ?_
  refine a_callV C (k := 175) (As := []) (rest := [.int (nI (a0 * sh i))]) (c_M_allShares l G d n hn h8) (cwV 0 C.1.2.2.2.2 gX12_remainder_X12_allShares rfl rfl rfl (by decide +kernel) ⟨Nat.le_of_ble_eq_true rfl, Nat.le_of_ble_eq_true rfl⟩) x_k175 (q := (RX12, TX12, 16)) rfl rfl rfl rfl (Nat.le_of_ble_eq_true rfl) dX12_remainder_12 ⟨Nat.le_of_ble_eq_true rfl, Nat.le_of_ble_eq_true rfl⟩ ?_
  refine a_top (y := nI (f_sn sh n)) (x_sumN n hs) ?_
  refine a_irem C dX12_remainder_15 (nI_ne0 (by omega) (by omega)) ?_
  refine a_top (y := (nI (f_rt a0 sh n i))) (pk_rem (by omega) (by omega) (by omega)) ?_
  exact a_iret C hlocks hr dX12_remainder_16 rfl rfl

set_option maxHeartbeats 1000000 in
set_option maxRecDepth 100000 in
theorem c_M_portion (l : Launch) (G : xG) (d : xd) (a0 : Nat) (sh : Nat → Nat) (i n : Nat) (hn : d 176 0 = nI n) (h8 : n ≤ 8) (hi : i < n) (hs : ∀ j, j < n → d 176 (14 + j) = nI (sh j)) (hs9 : ∀ j, j < n → sh j ≤ 9) (hS : 1 ≤ f_sn sh n) (ha0 : a0 < 100000) : x_M G l yX12_portion wsX12_portion 4 0 0 [.ref (x_b G + 175), .int (nI i), .int (nI a0)] d (some (.int (nI (g_por a0 sh n i)))) d := by
  have hS9 := x_sn_le n hs9
  have hah := g_ah_le (f_rt a0 sh n) i n
  have iX12 : ∀ w ∈ u_ws RX12 TX12 16, w ∈ wsX12_portion := by decide +kernel
  refine x_start (cc := cX12_portion) (maxL := 7) (ret := (some .int)) (own := RX12) (by decide) rfl rfl (Nat.le_of_ble_eq_true rfl) (lst := [(0, .ref (x_b G + 175)), (1, .int (nI i)), (2, .int (nI a0))]) rfl ?_
  intro p e s m args below meth c C hr hlocks
  refine a_iload_n C dX12_portion_0 2 rfl ?_
  refine a_istore_n C dX12_portion_1 (by decide) (lst2 := [(3, .int (nI a0)), (0, .ref (x_b G + 175)), (1, .int (nI i)), (2, .int (nI a0))]) rfl ?_
  refine a_iconst C dX12_portion_2 (v := 0) (by decide) ?_
  refine a_istore C dX12_portion_3 (by decide) (lst2 := [(4, .int 0), (3, .int (nI a0)), (0, .ref (x_b G + 175)), (1, .int (nI i)), (2, .int (nI a0))]) rfl ?_
  refine a_iconst C dX12_portion_5 (v := 0) (by decide) ?_
  refine a_istore C dX12_portion_6 (by decide) (lst2 := [(5, .int 0), (4, .int 0), (3, .int (nI a0)), (0, .ref (x_b G + 175)), (1, .int (nI i)), (2, .int (nI a0))]) rfl ?_
  have L8 : ∀ (j k : Nat), k ≤ n → n < k + j → Ab G p l e (x_rm 4 0 0) s m args below meth c 7 0 0 (MQ below (x_Q G (some (.int (nI (g_por a0 sh n i)))) d) args s 0 0 (x_A G)) 8 [(5, .int (nI k)), (4, .int (nI (g_ah (f_rt a0 sh n) i k))), (3, .int (nI (a0 - f_sn (f_qt a0 sh n) k))), (0, .ref (x_b G + 175)), (1, .int (nI i)), (2, .int (nI a0))] [] d := by
    intro j
    induction j with
    | zero => intro k h1 h2; exact absurd h2 (by omega)
    | succ j ih =>
      intro k hk hj 
      refine a_iload C dX12_portion_8 0 rfl ?_
      refine a_aload_n C dX12_portion_10 3 rfl ?_
      refine a_getR C (k := 175) iX12 x_k175 rfl (j := 0) rfl (by decide) (by decide +kernel) dX12_portion_11 ?_
      refine a_iconst C dX12_portion_14 (v := 0) (by decide) ?_
      refine a_ialdN C (k := 176) x_k176 (i := 0) rfl (by decide) (by first | decide | omega) dX12_portion_15 ?_
      refine a_top (y := (nI n)) hn ?_
      refine a_icmp_ge C dX12_portion_16 (tgt := 77) (by decide) (fun h16 => ?_) (fun h16 => ?_)
      · skip
        have e := x_ge h16 hk (by omega)
        have e9 := e.symm
        subst e9
        refine a_aload_n C dX12_portion_77 3 rfl ?_
        refine a_iload_n C dX12_portion_78 4 rfl ?_
        refine a_iload_n C dX12_portion_79 5 rfl ?_
        refine a_callV C (k := 175) (As := [.int (nI i), .int (nI a0)]) (rest := []) (c_M_quota l G d a0 sh i n hn h8 hi hs hs9 hS ha0) (cwV 2 C.1.2.2.2.2 gX12_portion_X12_quota rfl rfl rfl (by decide +kernel) ⟨Nat.le_of_ble_eq_true rfl, Nat.le_of_ble_eq_true rfl⟩) x_k175 (q := (RX12, TX12, 16)) rfl rfl rfl rfl (Nat.le_of_ble_eq_true rfl) dX12_portion_80 ⟨Nat.le_of_ble_eq_true rfl, Nat.le_of_ble_eq_true rfl⟩ ?_
        refine a_iload C dX12_portion_83 1 rfl ?_
        refine a_iload_n C dX12_portion_85 2 rfl ?_
        refine a_icmp_ge C dX12_portion_86 (tgt := 93) (by decide) (fun h86 => ?_) (fun h86 => ?_)
        · skip
          refine a_iconst C dX12_portion_93 (v := 0) (by decide) ?_
          refine a_iadd C dX12_portion_94 ?_
          refine a_top (y := (nI (g_por a0 sh n i))) (by rw [g_por, if_neg (fun z => absurd ((nI_leI (by omega) (by omega)).mp h86) (by omega))]; exact nI_add _ 0) ?_
          exact a_iret C hlocks hr dX12_portion_95 rfl rfl
        · skip
          refine a_iconst C dX12_portion_89 (v := 1) (by decide) ?_
          refine a_goto C dX12_portion_90 (tgt := 94) (by decide) ?_
          refine a_iadd C dX12_portion_94 ?_
          refine a_top (y := (nI (g_por a0 sh n i))) (by rw [g_por, if_pos (by rcases Nat.lt_or_ge (g_ah (f_rt a0 sh n) i n) (a0 - f_sn (f_qt a0 sh n) n) with z | z; exact z; exact absurd ((nI_leI (by omega) (by omega)).mpr z) h86)]; exact nI_1 _) ?_
          exact a_iret C hlocks hr dX12_portion_95 rfl rfl
      · skip
        have hlt := x_nge h16 hk
        have hq := x_qsum (a0 := a0) hS (show k + 1 ≤ n by omega)
        rw [f_sn] at hq
        have hr1 : f_rt a0 sh n k < f_sn sh n := Nat.mod_lt _ hS
        have hr2 : f_rt a0 sh n i < f_sn sh n := Nat.mod_lt _ hS
        refine a_iload_n C dX12_portion_19 2 rfl ?_
        refine a_aload_n C dX12_portion_20 3 rfl ?_
        refine a_iload C dX12_portion_21 0 rfl ?_
        refine a_iload_n C dX12_portion_23 5 rfl ?_
        refine a_callV C (k := 175) (As := [.int (nI k), .int (nI a0)]) (rest := [.int (nI (a0 - f_sn (f_qt a0 sh n) k))]) (c_M_quota l G d a0 sh k n hn h8 hlt hs hs9 hS ha0) (cwV 2 C.1.2.2.2.2 gX12_portion_X12_quota rfl rfl rfl (by decide +kernel) ⟨Nat.le_of_ble_eq_true rfl, Nat.le_of_ble_eq_true rfl⟩) x_k175 (q := (RX12, TX12, 16)) rfl rfl rfl rfl (Nat.le_of_ble_eq_true rfl) dX12_portion_24 ⟨Nat.le_of_ble_eq_true rfl, Nat.le_of_ble_eq_true rfl⟩ ?_
        refine a_isub C dX12_portion_27 ?_
        refine a_top (y := (nI (a0 - f_sn (f_qt a0 sh n) k - f_qt a0 sh n k))) (pk_sub (by omega)) ?_
        refine a_istore_n C dX12_portion_28 (by decide) (lst2 := [(3, .int (nI (a0 - f_sn (f_qt a0 sh n) k - f_qt a0 sh n k))), (5, .int (nI k)), (4, .int (nI (g_ah (f_rt a0 sh n) i k))), (0, .ref (x_b G + 175)), (1, .int (nI i)), (2, .int (nI a0))]) rfl ?_
        refine a_aload_n C dX12_portion_29 3 rfl ?_
        refine a_iload C dX12_portion_30 1 rfl ?_
        refine a_iload_n C dX12_portion_32 5 rfl ?_
        refine a_callV C (k := 175) (As := [.int (nI k), .int (nI a0)]) (rest := []) (c_M_remainder l G d a0 sh k n hn h8 hlt hs hs9 hS ha0) (cwV 2 C.1.2.2.2.2 gX12_portion_X12_remainder rfl rfl rfl (by decide +kernel) ⟨Nat.le_of_ble_eq_true rfl, Nat.le_of_ble_eq_true rfl⟩) x_k175 (q := (RX12, TX12, 16)) rfl rfl rfl rfl (Nat.le_of_ble_eq_true rfl) dX12_portion_33 ⟨Nat.le_of_ble_eq_true rfl, Nat.le_of_ble_eq_true rfl⟩ ?_
        refine a_aload_n C dX12_portion_36 3 rfl ?_
        refine a_iload_n C dX12_portion_37 4 rfl ?_
        refine a_iload_n C dX12_portion_38 5 rfl ?_
        refine a_callV C (k := 175) (As := [.int (nI i), .int (nI a0)]) (rest := [.int (nI (f_rt a0 sh n k))]) (c_M_remainder l G d a0 sh i n hn h8 hi hs hs9 hS ha0) (cwV 2 C.1.2.2.2.2 gX12_portion_X12_remainder rfl rfl rfl (by decide +kernel) ⟨Nat.le_of_ble_eq_true rfl, Nat.le_of_ble_eq_true rfl⟩) x_k175 (q := (RX12, TX12, 16)) rfl rfl rfl rfl (Nat.le_of_ble_eq_true rfl) dX12_portion_39 ⟨Nat.le_of_ble_eq_true rfl, Nat.le_of_ble_eq_true rfl⟩ ?_
        refine a_isub C dX12_portion_42 ?_
        refine a_istore C dX12_portion_43 (by decide) (lst2 := [(6, .int ((nI (f_rt a0 sh n k)) - (nI (f_rt a0 sh n i)))), (3, .int (nI (a0 - f_sn (f_qt a0 sh n) k - f_qt a0 sh n k))), (5, .int (nI k)), (4, .int (nI (g_ah (f_rt a0 sh n) i k))), (0, .ref (x_b G + 175)), (1, .int (nI i)), (2, .int (nI a0))]) rfl ?_
        refine a_iload C dX12_portion_45 3 rfl ?_
        refine a_iload C dX12_portion_47 0 rfl ?_
        refine a_if_gt C dX12_portion_49 (tgt := 63) (by decide) (fun h49 => ?_) (fun h49 => ?_)
        · skip
          refine a_iconst C dX12_portion_63 (v := 1) (by decide) ?_
          refine a_goto C dX12_portion_64 (tgt := 68) (by decide) ?_
          refine a_iadd C dX12_portion_68 ?_
          refine a_top (y := (nI (g_ah (f_rt a0 sh n) i (k + 1)))) (by rw [g_ah, if_pos (Or.inl ((x_gt_sub (by omega) (by omega)).mp h49))]; exact nI_1 _) ?_
          refine a_istore C dX12_portion_69 (by decide) (lst2 := [(4, .int (nI (g_ah (f_rt a0 sh n) i (k + 1)))), (6, .int ((nI (f_rt a0 sh n k)) - (nI (f_rt a0 sh n i)))), (3, .int (nI (a0 - f_sn (f_qt a0 sh n) k - f_qt a0 sh n k))), (5, .int (nI k)), (0, .ref (x_b G + 175)), (1, .int (nI i)), (2, .int (nI a0))]) rfl ?_
          refine a_iinc C dX12_portion_71 3 rfl (v := (nI (k + 1))) (x_inc k) (by decide) (lst2 := [(5, .int (nI (k + 1))), (4, .int (nI (g_ah (f_rt a0 sh n) i (k + 1)))), (6, .int ((nI (f_rt a0 sh n k)) - (nI (f_rt a0 sh n i)))), (3, .int (nI (a0 - f_sn (f_qt a0 sh n) k - f_qt a0 sh n k))), (0, .ref (x_b G + 175)), (1, .int (nI i)), (2, .int (nI a0))]) rfl ?_
          refine a_goto C dX12_portion_74 (tgt := 8) (by decide) ?_
          refine a_sub (lst2 := [(5, .int (nI (k + 1))), (4, .int (nI (g_ah (f_rt a0 sh n) i (k + 1)))), (3, .int (nI (a0 - f_sn (f_qt a0 sh n) k - f_qt a0 sh n k))), (0, .ref (x_b G + 175)), (1, .int (nI i)), (2, .int (nI a0))]) [0, 1, 3, 4, 5, 6] rfl ?_
          refine a_to (lst2 := [(5, .int (nI ((k + 1)))), (4, .int (nI (g_ah (f_rt a0 sh n) i ((k + 1))))), (3, .int (nI (a0 - f_sn (f_qt a0 sh n) ((k + 1))))), (0, .ref (x_b G + 175)), (1, .int (nI i)), (2, .int (nI a0))]) (st2 := []) (d2 := d) (by rw [f_sn, Nat.sub_add_eq]) rfl rfl ?_
          exact ih (k + 1) (by omega) (by omega) 
        · skip
          refine a_iload C dX12_portion_52 0 rfl ?_
          refine a_if_ne C dX12_portion_54 (tgt := 67) (by decide) (fun h54 => ?_) (fun h54 => ?_)
          · skip
            refine a_iconst C dX12_portion_67 (v := 0) (by decide) ?_
            refine a_iadd C dX12_portion_68 ?_
            refine a_top (y := (nI (g_ah (f_rt a0 sh n) i (k + 1)))) (by rw [g_ah, if_neg (fun z => z.elim (fun z => h49 ((x_gt_sub (by omega) (by omega)).mpr z)) (fun z => h54 ((x_eq_sub (by omega) (by omega)).mpr z.1)))]; exact nI_add _ 0) ?_
            refine a_istore C dX12_portion_69 (by decide) (lst2 := [(4, .int (nI (g_ah (f_rt a0 sh n) i (k + 1)))), (6, .int ((nI (f_rt a0 sh n k)) - (nI (f_rt a0 sh n i)))), (3, .int (nI (a0 - f_sn (f_qt a0 sh n) k - f_qt a0 sh n k))), (5, .int (nI k)), (0, .ref (x_b G + 175)), (1, .int (nI i)), (2, .int (nI a0))]) rfl ?_
            refine a_iinc C dX12_portion_71 3 rfl (v := (nI (k + 1))) (x_inc k) (by decide) (lst2 := [(5, .int (nI (k + 1))), (4, .int (nI (g_ah (f_rt a0 sh n) i (k + 1)))), (6, .int ((nI (f_rt a0 sh n k)) - (nI (f_rt a0 sh n i)))), (3, .int (nI (a0 - f_sn (f_qt a0 sh n) k - f_qt a0 sh n k))), (0, .ref (x_b G + 175)), (1, .int (nI i)), (2, .int (nI a0))]) rfl ?_
            refine a_goto C dX12_portion_74 (tgt := 8) (by decide) ?_
            refine a_sub (lst2 := [(5, .int (nI (k + 1))), (4, .int (nI (g_ah (f_rt a0 sh n) i (k + 1)))), (3, .int (nI (a0 - f_sn (f_qt a0 sh n) k - f_qt a0 sh n k))), (0, .ref (x_b G + 175)), (1, .int (nI i)), (2, .int (nI a0))]) [0, 1, 3, 4, 5, 6] rfl ?_
            refine a_to (lst2 := [(5, .int (nI ((k + 1)))), (4, .int (nI (g_ah (f_rt a0 sh n) i ((k + 1))))), (3, .int (nI (a0 - f_sn (f_qt a0 sh n) ((k + 1))))), (0, .ref (x_b G + 175)), (1, .int (nI i)), (2, .int (nI a0))]) (st2 := []) (d2 := d) (by rw [f_sn, Nat.sub_add_eq]) rfl rfl ?_
            exact ih (k + 1) (by omega) (by omega) 
          · skip
            refine a_iload C dX12_portion_57 2 rfl ?_
            refine a_iload_n C dX12_portion_59 5 rfl ?_
            refine a_icmp_ge C dX12_portion_60 (tgt := 67) (by decide) (fun h60 => ?_) (fun h60 => ?_)
            · skip
              refine a_iconst C dX12_portion_67 (v := 0) (by decide) ?_
              refine a_iadd C dX12_portion_68 ?_
              refine a_top (y := (nI (g_ah (f_rt a0 sh n) i (k + 1)))) (by rw [g_ah, if_neg (fun z => z.elim (fun z => h49 ((x_gt_sub (by omega) (by omega)).mpr z)) (fun z => absurd ((nI_leI (by omega) (by omega)).mp h60) (by omega)))]; exact nI_add _ 0) ?_
              refine a_istore C dX12_portion_69 (by decide) (lst2 := [(4, .int (nI (g_ah (f_rt a0 sh n) i (k + 1)))), (6, .int ((nI (f_rt a0 sh n k)) - (nI (f_rt a0 sh n i)))), (3, .int (nI (a0 - f_sn (f_qt a0 sh n) k - f_qt a0 sh n k))), (5, .int (nI k)), (0, .ref (x_b G + 175)), (1, .int (nI i)), (2, .int (nI a0))]) rfl ?_
              refine a_iinc C dX12_portion_71 3 rfl (v := (nI (k + 1))) (x_inc k) (by decide) (lst2 := [(5, .int (nI (k + 1))), (4, .int (nI (g_ah (f_rt a0 sh n) i (k + 1)))), (6, .int ((nI (f_rt a0 sh n k)) - (nI (f_rt a0 sh n i)))), (3, .int (nI (a0 - f_sn (f_qt a0 sh n) k - f_qt a0 sh n k))), (0, .ref (x_b G + 175)), (1, .int (nI i)), (2, .int (nI a0))]) rfl ?_
              refine a_goto C dX12_portion_74 (tgt := 8) (by decide) ?_
              refine a_sub (lst2 := [(5, .int (nI (k + 1))), (4, .int (nI (g_ah (f_rt a0 sh n) i (k + 1)))), (3, .int (nI (a0 - f_sn (f_qt a0 sh n) k - f_qt a0 sh n k))), (0, .ref (x_b G + 175)), (1, .int (nI i)), (2, .int (nI a0))]) [0, 1, 3, 4, 5, 6] rfl ?_
              refine a_to (lst2 := [(5, .int (nI ((k + 1)))), (4, .int (nI (g_ah (f_rt a0 sh n) i ((k + 1))))), (3, .int (nI (a0 - f_sn (f_qt a0 sh n) ((k + 1))))), (0, .ref (x_b G + 175)), (1, .int (nI i)), (2, .int (nI a0))]) (st2 := []) (d2 := d) (by rw [f_sn, Nat.sub_add_eq]) rfl rfl ?_
              exact ih (k + 1) (by omega) (by omega) 
            · skip
              refine a_iconst C dX12_portion_63 (v := 1) (by decide) ?_
              refine a_goto C dX12_portion_64 (tgt := 68) (by decide) ?_
              refine a_iadd C dX12_portion_68 ?_
              refine a_top (y := (nI (g_ah (f_rt a0 sh n) i (k + 1)))) (by rw [g_ah, if_pos (Or.inr ⟨(x_eq_sub (by omega) (by omega)).mp h54, by rcases Nat.lt_or_ge k i with z | z; exact z; exact absurd ((nI_leI (by omega) (by omega)).mpr z) h60⟩)]; exact nI_1 _) ?_
              refine a_istore C dX12_portion_69 (by decide) (lst2 := [(4, .int (nI (g_ah (f_rt a0 sh n) i (k + 1)))), (6, .int ((nI (f_rt a0 sh n k)) - (nI (f_rt a0 sh n i)))), (3, .int (nI (a0 - f_sn (f_qt a0 sh n) k - f_qt a0 sh n k))), (5, .int (nI k)), (0, .ref (x_b G + 175)), (1, .int (nI i)), (2, .int (nI a0))]) rfl ?_
              refine a_iinc C dX12_portion_71 3 rfl (v := (nI (k + 1))) (x_inc k) (by decide) (lst2 := [(5, .int (nI (k + 1))), (4, .int (nI (g_ah (f_rt a0 sh n) i (k + 1)))), (6, .int ((nI (f_rt a0 sh n k)) - (nI (f_rt a0 sh n i)))), (3, .int (nI (a0 - f_sn (f_qt a0 sh n) k - f_qt a0 sh n k))), (0, .ref (x_b G + 175)), (1, .int (nI i)), (2, .int (nI a0))]) rfl ?_
              refine a_goto C dX12_portion_74 (tgt := 8) (by decide) ?_
              refine a_sub (lst2 := [(5, .int (nI (k + 1))), (4, .int (nI (g_ah (f_rt a0 sh n) i (k + 1)))), (3, .int (nI (a0 - f_sn (f_qt a0 sh n) k - f_qt a0 sh n k))), (0, .ref (x_b G + 175)), (1, .int (nI i)), (2, .int (nI a0))]) [0, 1, 3, 4, 5, 6] rfl ?_
              refine a_to (lst2 := [(5, .int (nI ((k + 1)))), (4, .int (nI (g_ah (f_rt a0 sh n) i ((k + 1))))), (3, .int (nI (a0 - f_sn (f_qt a0 sh n) ((k + 1))))), (0, .ref (x_b G + 175)), (1, .int (nI i)), (2, .int (nI a0))]) (st2 := []) (d2 := d) (by rw [f_sn, Nat.sub_add_eq]) rfl rfl ?_
              exact ih (k + 1) (by omega) (by omega) 
  refine a_sub (lst2 := [(5, .int 0), (4, .int 0), (3, .int (nI a0)), (0, .ref (x_b G + 175)), (1, .int (nI i)), (2, .int (nI a0))]) [0, 1, 2, 3, 4, 5] rfl ?_
  exact L8 (n + 1) 0 (by omega) (by omega) 

def g_add (z : Nat → Int32) (b : Nat → Nat) (k : Nat) : Int32 := if nI (b k) < 60 - z (38 + k) then nI (b k) else 60 - z (38 + k)
def g_res (z : Nat → Int32) (b : Nat → Nat) : Nat → Int32
  | 0 => z 3
  | k + 1 => g_res z b k + (nI (b k) - g_add z b k)
def g_dl (z : Nat → Int32) (b : Nat → Nat) (k : Nat) : Nat → Int32 := fun j => if j = 3 then g_res z b k else if 38 ≤ j ∧ j < 38 + k then z j + g_add z b (j - 38) else z j
theorem g_dl_out {z : Nat → Int32} {b : Nat → Nat} {k j : Nat} (h : j ≠ 3) (h2 : j < 38 ∨ 38 + k ≤ j) : g_dl z b k j = z j := by
  simp only [g_dl]
  rw [if_neg h, if_neg (by omega)]
theorem g_dl_3 {z : Nat → Int32} {b : Nat → Nat} {k : Nat} : g_dl z b k 3 = g_res z b k := if_pos rfl
theorem g_dl_0 (z : Nat → Int32) (b : Nat → Nat) : g_dl z b 0 = z := by
  funext j
  simp only [g_dl]
  by_cases h : j = 3
  · subst h; rfl
  · rw [if_neg h, if_neg (by omega)]
theorem g_dl_s {z : Nat → Int32} {b : Nat → Nat} {k : Nat} : upd (upd (g_dl z b k) (38 + k) (z (38 + k) + g_add z b k)) 3 (g_res z b k + (nI (b k) - g_add z b k)) = g_dl z b (k + 1) := by
  funext j
  simp only [upd, g_dl]
  by_cases h : j = 3
  · simp only [if_pos h]; rfl
  · simp only [if_neg h]
    by_cases h2 : j = 38 + k
    · subst h2
      rw [if_pos rfl, if_pos (show 38 ≤ 38 + k ∧ 38 + k < 38 + (k + 1) by omega), show 38 + k - 38 = k by omega]
    · rw [if_neg h2]
      by_cases h3 : 38 ≤ j ∧ j < 38 + k
      · rw [if_pos h3, if_pos (show 38 ≤ j ∧ j < 38 + (k + 1) by omega)]
      · rw [if_neg h3, if_neg (show ¬ (38 ≤ j ∧ j < 38 + (k + 1)) by omega)]
def g_py (z : Nat → Int32) (b : Nat → Nat) (k : Nat) : Nat → Int32 := fun j => if 54 ≤ j ∧ j < 54 + k then z j + nI (b (j - 54)) else z j
theorem g_py_out {z : Nat → Int32} {b : Nat → Nat} {k j : Nat} (h2 : j < 54 ∨ 54 + k ≤ j) : g_py z b k j = z j := by
  simp only [g_py]
  rw [if_neg (by omega)]
theorem g_py_0 (z : Nat → Int32) (b : Nat → Nat) : g_py z b 0 = z := by
  funext j
  simp only [g_py]
  rw [if_neg (by omega)]
theorem g_py_s {z : Nat → Int32} {b : Nat → Nat} {k : Nat} : upd (g_py z b k) (54 + k) (z (54 + k) + nI (b k)) = g_py z b (k + 1) := by
  funext j
  simp only [upd, g_py]
  by_cases h2 : j = 54 + k
  · subst h2
    rw [if_pos rfl, if_pos (by omega), show 54 + k - 54 = k by omega]
  · rw [if_neg h2]
    by_cases h3 : 54 ≤ j ∧ j < 54 + k
    · rw [if_pos h3, if_pos (by omega)]
    · rw [if_neg h3, if_neg (by omega)]
set_option maxHeartbeats 1000000 in
set_option maxRecDepth 100000 in
theorem c_M_delivers_1 (l : Launch) (G : xG) (d : xd) (u : Int32) (hu : ¬ (1 ≤ u ∧ u ≤ 200)) : x_M G l yX12_delivers wsX12_delivers 5 0 0 [.ref (x_b G + 175), .int u] d (some (.int 0)) (g_th d 1) := by
  refine x_start (cc := cX12_delivers) (maxL := 6) (ret := (some .int)) (own := RX12) (by decide) rfl rfl (Nat.le_of_ble_eq_true rfl) (lst := [(0, .ref (x_b G + 175)), (1, .int u)]) rfl ?_
  intro p e s m args below meth c C hr hlocks
  refine a_iload_n C dX12_delivers_0 1 rfl ?_
  refine a_iconst C dX12_delivers_1 (v := 1) (by decide) ?_
  refine a_sipush C dX12_delivers_2 (v := 200) (by decide) ?_
  refine a_callS C (As := [.int u, .int 1, .int 200]) (rest := []) (c_M_in_f l G d u 1 200 hu) (va_cwS 3 C.1.2.2.2.2 gX12_delivers_X12_in rfl rfl rfl (by decide +kernel) ⟨Nat.le_of_ble_eq_true rfl, Nat.le_of_ble_eq_true rfl⟩) rfl rfl (Nat.le_of_ble_eq_true rfl) dX12_delivers_5 ⟨Nat.le_of_ble_eq_true rfl, Nat.le_of_ble_eq_true rfl⟩ ?_
  refine a_if_ne C dX12_delivers_8 (tgt := 17) (by decide) (fun h => absurd h (by decide)) (fun _ => ?_)
  refine a_aload_n C dX12_delivers_11 0 rfl ?_
  refine a_iconst C dX12_delivers_12 (v := 1) (by decide) ?_
  refine a_callV C (k := 175) (As := [.int 1]) (rest := []) (c_M_fails l G d 1) (cwV 1 C.1.2.2.2.2 gX12_delivers_X12_fails rfl rfl rfl (by decide +kernel) ⟨Nat.le_of_ble_eq_true rfl, Nat.le_of_ble_eq_true rfl⟩) x_k175 (q := (RX12, TX12, 16)) rfl rfl rfl rfl (Nat.le_of_ble_eq_true rfl) dX12_delivers_13 ⟨Nat.le_of_ble_eq_true rfl, Nat.le_of_ble_eq_true rfl⟩ ?_
  exact a_iret C hlocks hr dX12_delivers_16 rfl rfl

set_option maxHeartbeats 1000000 in
set_option maxRecDepth 100000 in
theorem c_M_delivers_2 (l : Launch) (G : xG) (d : xd) (u : Int32) (hu : 1 ≤ u ∧ u ≤ 200) (hn : d 176 0 = 0) : x_M G l yX12_delivers wsX12_delivers 5 0 0 [.ref (x_b G + 175), .int u] d (some (.int 0)) (g_th d 2) := by
  have iX12 : ∀ w ∈ u_ws RX12 TX12 16, w ∈ wsX12_delivers := by decide +kernel
  refine x_start (cc := cX12_delivers) (maxL := 6) (ret := (some .int)) (own := RX12) (by decide) rfl rfl (Nat.le_of_ble_eq_true rfl) (lst := [(0, .ref (x_b G + 175)), (1, .int u)]) rfl ?_
  intro p e s m args below meth c C hr hlocks
  refine a_iload_n C dX12_delivers_0 1 rfl ?_
  refine a_iconst C dX12_delivers_1 (v := 1) (by decide) ?_
  refine a_sipush C dX12_delivers_2 (v := 200) (by decide) ?_
  refine a_callS C (As := [.int u, .int 1, .int 200]) (rest := []) (c_M_in_t l G d u 1 200 hu) (va_cwS 3 C.1.2.2.2.2 gX12_delivers_X12_in rfl rfl rfl (by decide +kernel) ⟨Nat.le_of_ble_eq_true rfl, Nat.le_of_ble_eq_true rfl⟩) rfl rfl (Nat.le_of_ble_eq_true rfl) dX12_delivers_5 ⟨Nat.le_of_ble_eq_true rfl, Nat.le_of_ble_eq_true rfl⟩ ?_
  refine a_if_ne C dX12_delivers_8 (tgt := 17) (by decide) (fun _ => ?_) (fun h => absurd h (by decide))
  refine a_aload_n C dX12_delivers_17 0 rfl ?_
  refine a_getR C (k := 175) iX12 x_k175 rfl (j := 0) rfl (by decide) (by decide +kernel) dX12_delivers_18 ?_
  refine a_iconst C dX12_delivers_21 (v := 0) (by decide) ?_
  refine a_ialdN C (k := 176) x_k176 (i := 0) rfl (by decide) (by first | decide | omega) dX12_delivers_22 ?_
  refine a_top (y := 0) hn ?_
  refine a_if_ne C dX12_delivers_23 (tgt := 32) (by decide) (fun h => absurd h (by decide)) (fun _ => ?_)
  refine a_aload_n C dX12_delivers_26 0 rfl ?_
  refine a_iconst C dX12_delivers_27 (v := 2) (by decide) ?_
  refine a_callV C (k := 175) (As := [.int 2]) (rest := []) (c_M_fails l G d 2) (cwV 1 C.1.2.2.2.2 gX12_delivers_X12_fails rfl rfl rfl (by decide +kernel) ⟨Nat.le_of_ble_eq_true rfl, Nat.le_of_ble_eq_true rfl⟩) x_k175 (q := (RX12, TX12, 16)) rfl rfl rfl rfl (Nat.le_of_ble_eq_true rfl) dX12_delivers_28 ⟨Nat.le_of_ble_eq_true rfl, Nat.le_of_ble_eq_true rfl⟩ ?_
  exact a_iret C hlocks hr dX12_delivers_31 rfl rfl

set_option maxHeartbeats 1000000 in
set_option maxRecDepth 100000 in
theorem c_M_delivers (l : Launch) (G : xG) (d : xd) (a0 : Nat) (sh : Nat → Nat) (n : Nat) (hn : d 176 0 = nI n) (h8 : n ≤ 8) (h1 : 1 ≤ n) (hs : ∀ j, j < n → d 176 (14 + j) = nI (sh j)) (hs9 : ∀ j, j < n → sh j ≤ 9) (hS : 1 ≤ f_sn sh n) (ha0 : a0 < 100000) (hu : 1 ≤ nI a0 ∧ nI a0 ≤ 200) : x_M G l yX12_delivers wsX12_delivers 5 0 0 [.ref (x_b G + 175), .int (nI a0)] d (some (.int (f_sum (g_add (d 176) (g_por a0 sh n)) n))) (g_ok d (g_dl (d 176) (g_por a0 sh n) n)) := by
  have iX12 : ∀ w ∈ u_ws RX12 TX12 16, w ∈ wsX12_delivers := by decide +kernel
  refine x_start (cc := cX12_delivers) (maxL := 6) (ret := (some .int)) (own := RX12) (by decide) rfl rfl (Nat.le_of_ble_eq_true rfl) (lst := [(0, .ref (x_b G + 175)), (1, .int (nI a0))]) rfl ?_
  intro p e s m args below meth c C hr hlocks
  refine a_iload_n C dX12_delivers_0 1 rfl ?_
  refine a_iconst C dX12_delivers_1 (v := 1) (by decide) ?_
  refine a_sipush C dX12_delivers_2 (v := 200) (by decide) ?_
  refine a_callS C (As := [.int (nI a0), .int 1, .int 200]) (rest := []) (c_M_in_t l G d (nI a0) 1 200 hu) (va_cwS 3 C.1.2.2.2.2 gX12_delivers_X12_in rfl rfl rfl (by decide +kernel) ⟨Nat.le_of_ble_eq_true rfl, Nat.le_of_ble_eq_true rfl⟩) rfl rfl (Nat.le_of_ble_eq_true rfl) dX12_delivers_5 ⟨Nat.le_of_ble_eq_true rfl, Nat.le_of_ble_eq_true rfl⟩ ?_
  refine a_if_ne C dX12_delivers_8 (tgt := 17) (by decide) (fun _ => ?_) (fun h => absurd h (by decide))
  refine a_aload_n C dX12_delivers_17 0 rfl ?_
  refine a_getR C (k := 175) iX12 x_k175 rfl (j := 0) rfl (by decide) (by decide +kernel) dX12_delivers_18 ?_
  refine a_iconst C dX12_delivers_21 (v := 0) (by decide) ?_
  refine a_ialdN C (k := 176) x_k176 (i := 0) rfl (by decide) (by first | decide | omega) dX12_delivers_22 ?_
  refine a_top (y := (nI n)) hn ?_
  refine a_if_ne C dX12_delivers_23 (tgt := 32) (by decide) (fun h23 => ?_) (fun h => False.elim (nI_ne0 (by omega) (by omega) h))
  refine a_iconst C dX12_delivers_32 (v := 0) (by decide) ?_
  refine a_istore_n C dX12_delivers_33 (by decide) (lst2 := [(2, .int 0), (0, .ref (x_b G + 175)), (1, .int (nI a0))]) rfl ?_
  refine a_iconst C dX12_delivers_34 (v := 0) (by decide) ?_
  refine a_istore_n C dX12_delivers_35 (by decide) (lst2 := [(3, .int 0), (2, .int 0), (0, .ref (x_b G + 175)), (1, .int (nI a0))]) rfl ?_
  have L36 : ∀ (j k : Nat), k ≤ n → n < k + j → Ab G p l e (x_rm 5 0 0) s m args below meth c 6 0 0 (MQ below (x_Q G (some (.int (f_sum (g_add (d 176) (g_por a0 sh n)) n))) (g_ok d (g_dl (d 176) (g_por a0 sh n) n))) args s 0 0 (x_A G)) 36 [(3, .int (nI k)), (2, .int (f_sum (g_add (d 176) (g_por a0 sh n)) k)), (0, .ref (x_b G + 175)), (1, .int (nI a0))] [] (x_r d 176 (g_dl (d 176) (g_por a0 sh n) k)) := by
    intro j
    induction j with
    | zero => intro k h1 h2; exact absurd h2 (by omega)
    | succ j ih =>
      intro k hk hj 
      refine a_iload_n C dX12_delivers_36 0 rfl ?_
      refine a_aload_n C dX12_delivers_37 2 rfl ?_
      refine a_getR C (k := 175) iX12 x_k175 rfl (j := 0) rfl (by decide) (by decide +kernel) dX12_delivers_38 ?_
      refine a_iconst C dX12_delivers_41 (v := 0) (by decide) ?_
      refine a_ialdN C (k := 176) x_k176 (i := 0) rfl (by decide) (by first | decide | omega) dX12_delivers_42 ?_
      refine a_top (y := (nI n)) (by rw [x_r_same, g_dl_out (by omega) (by omega)]; exact hn) ?_
      refine a_icmp_ge C dX12_delivers_43 (tgt := 112) (by decide) (fun h43 => ?_) (fun h43 => ?_)
      · skip
        have e := x_ge h43 hk (by omega)
        have e9 := e.symm
        subst e9
        refine a_aload_n C dX12_delivers_112 2 rfl ?_
        refine a_iload_n C dX12_delivers_113 1 rfl ?_
        refine a_callV C (k := 175) (As := [.int (f_sum (g_add (d 176) (g_por a0 sh n)) n)]) (rest := []) (c_M_done l G (x_r d 176 (g_dl (d 176) (g_por a0 sh n) n)) (f_sum (g_add (d 176) (g_por a0 sh n)) n)) (cwV 1 C.1.2.2.2.2 gX12_delivers_X12_done rfl rfl rfl (by decide +kernel) ⟨Nat.le_of_ble_eq_true rfl, Nat.le_of_ble_eq_true rfl⟩) x_k175 (q := (RX12, TX12, 16)) rfl rfl rfl rfl (Nat.le_of_ble_eq_true rfl) dX12_delivers_114 ⟨Nat.le_of_ble_eq_true rfl, Nat.le_of_ble_eq_true rfl⟩ ?_
        exact a_iret C hlocks hr dX12_delivers_117 rfl rfl
      · skip
        have hlt := x_nge h43 hk
        refine a_aload_n C dX12_delivers_46 2 rfl ?_
        refine a_iload_n C dX12_delivers_47 0 rfl ?_
        refine a_iload_n C dX12_delivers_48 3 rfl ?_
        refine a_callV C (k := 175) (As := [.int (nI k), .int (nI a0)]) (rest := []) (c_M_portion l G (x_r d 176 (g_dl (d 176) (g_por a0 sh n) k)) a0 sh k n (by rw [x_r_same, g_dl_out (by omega) (by omega)]; exact hn) h8 hlt (fun j hj => by rw [x_r_same, g_dl_out (by omega) (by omega)]; exact hs j hj) hs9 hS ha0) (cwV 2 C.1.2.2.2.2 gX12_delivers_X12_portion rfl rfl rfl (by decide +kernel) ⟨Nat.le_of_ble_eq_true rfl, Nat.le_of_ble_eq_true rfl⟩) x_k175 (q := (RX12, TX12, 16)) rfl rfl rfl rfl (Nat.le_of_ble_eq_true rfl) dX12_delivers_49 ⟨Nat.le_of_ble_eq_true rfl, Nat.le_of_ble_eq_true rfl⟩ ?_
        refine a_istore C dX12_delivers_52 (by decide) (lst2 := [(4, .int (nI (g_por a0 sh n k))), (3, .int (nI k)), (2, .int (f_sum (g_add (d 176) (g_por a0 sh n)) k)), (0, .ref (x_b G + 175)), (1, .int (nI a0))]) rfl ?_
        refine a_iload C dX12_delivers_54 0 rfl ?_
        refine a_bipush C dX12_delivers_56 (v := 60) (by decide) ?_
        refine a_aload_n C dX12_delivers_58 3 rfl ?_
        refine a_getR C (k := 175) iX12 x_k175 rfl (j := 0) rfl (by decide) (by decide +kernel) dX12_delivers_59 ?_
        refine a_bipush C dX12_delivers_62 (v := 38) (by decide) ?_
        refine a_iload_n C dX12_delivers_64 1 rfl ?_
        refine a_iadd C dX12_delivers_65 ?_
        refine a_ialdN C (k := 176) x_k176 (i := 38 + k) (x_add2 (a := 38) (b := k) rfl rfl) (by omega) (by first | decide | omega) dX12_delivers_66 ?_
        refine a_top (y := (d 176 (38 + k))) (by rw [x_r_same, g_dl_out (by omega) (by omega)]) ?_
        refine a_isub C dX12_delivers_67 ?_
        refine a_callS C (As := [.int (nI (g_por a0 sh n k)), .int (60 - (d 176 (38 + k)))]) (rest := []) (c_M_least l G (x_r d 176 (g_dl (d 176) (g_por a0 sh n) k)) (nI (g_por a0 sh n k)) (60 - (d 176 (38 + k)))) (va_cwS 2 C.1.2.2.2.2 gX12_delivers_X12_least rfl rfl rfl (by decide +kernel) ⟨Nat.le_of_ble_eq_true rfl, Nat.le_of_ble_eq_true rfl⟩) rfl rfl (Nat.le_of_ble_eq_true rfl) dX12_delivers_68 ⟨Nat.le_of_ble_eq_true rfl, Nat.le_of_ble_eq_true rfl⟩ ?_
        refine a_istore C dX12_delivers_71 (by decide) (lst2 := [(5, .int (g_add (d 176) (g_por a0 sh n) k)), (4, .int (nI (g_por a0 sh n k))), (3, .int (nI k)), (2, .int (f_sum (g_add (d 176) (g_por a0 sh n)) k)), (0, .ref (x_b G + 175)), (1, .int (nI a0))]) rfl ?_
        refine a_aload_n C dX12_delivers_73 4 rfl ?_
        refine a_getR C (k := 175) iX12 x_k175 rfl (j := 0) rfl (by decide) (by decide +kernel) dX12_delivers_74 ?_
        refine a_bipush C dX12_delivers_77 (v := 38) (by decide) ?_
        refine a_iload_n C dX12_delivers_79 2 rfl ?_
        refine a_iadd C dX12_delivers_80 ?_
        refine a_dup2 C dX12_delivers_81 rfl rfl ?_
        refine a_ialdN C (k := 176) x_k176 (i := 38 + k) (x_add2 (a := 38) (b := k) rfl rfl) (by omega) (by first | decide | omega) dX12_delivers_82 ?_
        refine a_top (y := (d 176 (38 + k))) (by rw [x_r_same, g_dl_out (by omega) (by omega)]) ?_
        refine a_iload C dX12_delivers_83 0 rfl ?_
        refine a_iadd C dX12_delivers_85 ?_
        refine a_iastN C (k := 176) x_k176 (i := 38 + k) (x_add2 (a := 38) (b := k) rfl rfl) (by omega) (by first | decide | omega) dX12_delivers_86 ?_
        refine a_aload_n C dX12_delivers_87 4 rfl ?_
        refine a_getR C (k := 175) iX12 x_k175 rfl (j := 0) rfl (by decide) (by decide +kernel) dX12_delivers_88 ?_
        refine a_iconst C dX12_delivers_91 (v := 3) (by decide) ?_
        refine a_dup2 C dX12_delivers_92 rfl rfl ?_
        refine a_ialdN C (k := 176) x_k176 (i := 3) rfl (by decide) (by first | decide | omega) dX12_delivers_93 ?_
        refine a_top (y := ((x_r d 176 (g_dl (d 176) (g_por a0 sh n) k)) 176 3)) (by first | rw [x_p_row (by omega)] | rfl) ?_
        refine a_top (y := (g_res (d 176) (g_por a0 sh n) k)) (by rw [x_r_same, g_dl_3]) ?_
        refine a_iload C dX12_delivers_94 1 rfl ?_
        refine a_iload C dX12_delivers_96 0 rfl ?_
        refine a_isub C dX12_delivers_98 ?_
        refine a_iadd C dX12_delivers_99 ?_
        refine a_iastN C (k := 176) x_k176 (i := 3) rfl (by decide) (by first | decide | omega) dX12_delivers_100 ?_
        refine a_iload_n C dX12_delivers_101 3 rfl ?_
        refine a_iload C dX12_delivers_102 0 rfl ?_
        refine a_iadd C dX12_delivers_104 ?_
        refine a_istore_n C dX12_delivers_105 (by decide) (lst2 := [(2, .int ((f_sum (g_add (d 176) (g_por a0 sh n)) k) + (g_add (d 176) (g_por a0 sh n) k))), (5, .int (g_add (d 176) (g_por a0 sh n) k)), (4, .int (nI (g_por a0 sh n k))), (3, .int (nI k)), (0, .ref (x_b G + 175)), (1, .int (nI a0))]) rfl ?_
        refine a_iinc C dX12_delivers_106 3 rfl (v := (nI (k + 1))) (x_inc k) (by decide) (lst2 := [(3, .int (nI (k + 1))), (2, .int ((f_sum (g_add (d 176) (g_por a0 sh n)) k) + (g_add (d 176) (g_por a0 sh n) k))), (5, .int (g_add (d 176) (g_por a0 sh n) k)), (4, .int (nI (g_por a0 sh n k))), (0, .ref (x_b G + 175)), (1, .int (nI a0))]) rfl ?_
        refine a_goto C dX12_delivers_109 (tgt := 36) (by decide) ?_
        refine a_sub (lst2 := [(3, .int (nI (k + 1))), (2, .int ((f_sum (g_add (d 176) (g_por a0 sh n)) k) + (g_add (d 176) (g_por a0 sh n) k))), (0, .ref (x_b G + 175)), (1, .int (nI a0))]) [0, 1, 4, 5] rfl ?_
        refine a_to (lst2 := [(3, .int (nI ((k + 1)))), (2, .int (f_sum (g_add (d 176) (g_por a0 sh n)) ((k + 1)))), (0, .ref (x_b G + 175)), (1, .int (nI a0))]) (st2 := []) (d2 := x_r d 176 (g_dl (d 176) (g_por a0 sh n) ((k + 1)))) rfl rfl (x_p_r4 g_dl_s).symm ?_
        exact ih (k + 1) (by omega) (by omega) 
  refine a_sub (lst2 := [(3, .int 0), (2, .int 0), (0, .ref (x_b G + 175)), (1, .int (nI a0))]) [0, 1, 2, 3] rfl ?_
  refine a_toD (d2 := x_r d 176 (g_dl (d 176) (g_por a0 sh n) 0)) (by rw [g_dl_0]; exact x_r_id d 176) ?_
  exact L36 (n + 1) 0 (by omega) (by omega)

set_option maxHeartbeats 1000000 in
set_option maxRecDepth 100000 in
theorem c_M_pays_1 (l : Launch) (G : xG) (d : xd) (hx : d 176 0 = 0 ∨ d 176 5 = 0) : x_M G l yX12_pays wsX12_pays 5 0 0 [.ref (x_b G + 175)] d (some (.int 0)) (g_th d 1) := by
  have iX12 : ∀ w ∈ u_ws RX12 TX12 16, w ∈ wsX12_pays := by decide +kernel
  refine x_start (cc := cX12_pays) (maxL := 3) (ret := (some .int)) (own := RX12) (by decide) rfl rfl (Nat.le_of_ble_eq_true rfl) (lst := [(0, .ref (x_b G + 175))]) rfl ?_
  intro p e s m args below meth c C hr hlocks
  refine a_aload_n C dX12_pays_0 0 rfl ?_
  refine a_getR C (k := 175) iX12 x_k175 rfl (j := 0) rfl (by decide) (by decide +kernel) dX12_pays_1 ?_
  refine a_iconst C dX12_pays_4 (v := 5) (by decide) ?_
  refine a_ialdN C (k := 176) x_k176 (i := 5) rfl (by decide) (by first | decide | omega) dX12_pays_5 ?_
  refine a_istore_n C dX12_pays_6 (by decide) (lst2 := [(1, .int (d 176 5)), (0, .ref (x_b G + 175))]) rfl ?_
  refine a_aload_n C dX12_pays_7 1 rfl ?_
  refine a_getR C (k := 175) iX12 x_k175 rfl (j := 0) rfl (by decide) (by decide +kernel) dX12_pays_8 ?_
  refine a_iconst C dX12_pays_11 (v := 0) (by decide) ?_
  refine a_ialdN C (k := 176) x_k176 (i := 0) rfl (by decide) (by first | decide | omega) dX12_pays_12 ?_
  refine a_if_eq C dX12_pays_13 (tgt := 20) (by decide) (fun h13 => ?_) (fun h13 => ?_)
  · skip
    refine a_aload_n C dX12_pays_20 1 rfl ?_
    refine a_iconst C dX12_pays_21 (v := 1) (by decide) ?_
    refine a_callV C (k := 175) (As := [.int 1]) (rest := []) (c_M_fails l G d 1) (cwV 1 C.1.2.2.2.2 gX12_pays_X12_fails rfl rfl rfl (by decide +kernel) ⟨Nat.le_of_ble_eq_true rfl, Nat.le_of_ble_eq_true rfl⟩) x_k175 (q := (RX12, TX12, 16)) rfl rfl rfl rfl (Nat.le_of_ble_eq_true rfl) dX12_pays_22 ⟨Nat.le_of_ble_eq_true rfl, Nat.le_of_ble_eq_true rfl⟩ ?_
    exact a_iret C hlocks hr dX12_pays_25 rfl rfl
  · skip
    refine a_iload_n C dX12_pays_16 0 rfl ?_
    refine a_if_ne C dX12_pays_17 (tgt := 26) (by decide) (fun h17 => ?_) (fun h17 => ?_)
    · skip
      exact (hx.elim h13 h17).elim
    · skip
      refine a_aload_n C dX12_pays_20 1 rfl ?_
      refine a_iconst C dX12_pays_21 (v := 1) (by decide) ?_
      refine a_callV C (k := 175) (As := [.int 1]) (rest := []) (c_M_fails l G d 1) (cwV 1 C.1.2.2.2.2 gX12_pays_X12_fails rfl rfl rfl (by decide +kernel) ⟨Nat.le_of_ble_eq_true rfl, Nat.le_of_ble_eq_true rfl⟩) x_k175 (q := (RX12, TX12, 16)) rfl rfl rfl rfl (Nat.le_of_ble_eq_true rfl) dX12_pays_22 ⟨Nat.le_of_ble_eq_true rfl, Nat.le_of_ble_eq_true rfl⟩ ?_
      exact a_iret C hlocks hr dX12_pays_25 rfl rfl

set_option maxHeartbeats 1000000 in
set_option maxRecDepth 100000 in
theorem c_M_pays (l : Launch) (G : xG) (d : xd) (a0 : Nat) (sh : Nat → Nat) (n : Nat) (hn : d 176 0 = nI n) (h8 : n ≤ 8) (h1 : 1 ≤ n) (hs : ∀ j, j < n → d 176 (14 + j) = nI (sh j)) (hs9 : ∀ j, j < n → sh j ≤ 9) (hS : 1 ≤ f_sn sh n) (ha0 : a0 < 100000) (ht : d 176 5 = nI a0) (ha1 : 1 ≤ a0) : x_M G l yX12_pays wsX12_pays 5 0 0 [.ref (x_b G + 175)] d (some (.int (nI a0))) (g_ok d (upd (g_py (d 176) (g_por a0 sh n) n) 5 0)) := by
  have iX12 : ∀ w ∈ u_ws RX12 TX12 16, w ∈ wsX12_pays := by decide +kernel
  refine x_start (cc := cX12_pays) (maxL := 3) (ret := (some .int)) (own := RX12) (by decide) rfl rfl (Nat.le_of_ble_eq_true rfl) (lst := [(0, .ref (x_b G + 175))]) rfl ?_
  intro p e s m args below meth c C hr hlocks
  refine a_aload_n C dX12_pays_0 0 rfl ?_
  refine a_getR C (k := 175) iX12 x_k175 rfl (j := 0) rfl (by decide) (by decide +kernel) dX12_pays_1 ?_
  refine a_iconst C dX12_pays_4 (v := 5) (by decide) ?_
  refine a_ialdN C (k := 176) x_k176 (i := 5) rfl (by decide) (by first | decide | omega) dX12_pays_5 ?_
  refine a_top (y := (nI a0)) ht ?_
  refine a_istore_n C dX12_pays_6 (by decide) (lst2 := [(1, .int (nI a0)), (0, .ref (x_b G + 175))]) rfl ?_
  refine a_aload_n C dX12_pays_7 1 rfl ?_
  refine a_getR C (k := 175) iX12 x_k175 rfl (j := 0) rfl (by decide) (by decide +kernel) dX12_pays_8 ?_
  refine a_iconst C dX12_pays_11 (v := 0) (by decide) ?_
  refine a_ialdN C (k := 176) x_k176 (i := 0) rfl (by decide) (by first | decide | omega) dX12_pays_12 ?_
  refine a_top (y := (nI n)) hn ?_
  refine a_if_eq C dX12_pays_13 (tgt := 20) (by decide) (fun h => absurd h (nI_ne0 (by omega) (by omega))) (fun h13 => ?_)
  refine a_iload_n C dX12_pays_16 0 rfl ?_
  refine a_if_ne C dX12_pays_17 (tgt := 26) (by decide) (fun h17 => ?_) (fun h => False.elim (nI_ne0 (by omega) (by omega) h))
  refine a_iconst C dX12_pays_26 (v := 0) (by decide) ?_
  refine a_istore_n C dX12_pays_27 (by decide) (lst2 := [(2, .int 0), (1, .int (nI a0)), (0, .ref (x_b G + 175))]) rfl ?_
  have L28 : ∀ (j k : Nat), k ≤ n → n < k + j → Ab G p l e (x_rm 5 0 0) s m args below meth c 3 0 0 (MQ below (x_Q G (some (.int (nI a0))) (g_ok d (upd (g_py (d 176) (g_por a0 sh n) n) 5 0))) args s 0 0 (x_A G)) 28 [(2, .int (nI k)), (1, .int (nI a0)), (0, .ref (x_b G + 175))] [] (x_r d 176 (g_py (d 176) (g_por a0 sh n) k)) := by
    intro j
    induction j with
    | zero => intro k h1 h2; exact absurd h2 (by omega)
    | succ j ih =>
      intro k hk hj 
      refine a_iload_n C dX12_pays_28 0 rfl ?_
      refine a_aload_n C dX12_pays_29 2 rfl ?_
      refine a_getR C (k := 175) iX12 x_k175 rfl (j := 0) rfl (by decide) (by decide +kernel) dX12_pays_30 ?_
      refine a_iconst C dX12_pays_33 (v := 0) (by decide) ?_
      refine a_ialdN C (k := 176) x_k176 (i := 0) rfl (by decide) (by first | decide | omega) dX12_pays_34 ?_
      refine a_top (y := (nI n)) (by rw [x_r_same, g_py_out (by omega)]; exact hn) ?_
      refine a_icmp_ge C dX12_pays_35 (tgt := 62) (by decide) (fun h35 => ?_) (fun h35 => ?_)
      · skip
        have e := x_ge h35 hk (by omega)
        have e9 := e.symm
        subst e9
        refine a_aload_n C dX12_pays_62 2 rfl ?_
        refine a_getR C (k := 175) iX12 x_k175 rfl (j := 0) rfl (by decide) (by decide +kernel) dX12_pays_63 ?_
        refine a_iconst C dX12_pays_66 (v := 5) (by decide) ?_
        refine a_iconst C dX12_pays_67 (v := 0) (by decide) ?_
        refine a_iastN C (k := 176) x_k176 (i := 5) rfl (by decide) (by first | decide | omega) dX12_pays_68 ?_
        refine a_aload_n C dX12_pays_69 2 rfl ?_
        refine a_iload_n C dX12_pays_70 1 rfl ?_
        refine a_callV C (k := 175) (As := [.int (nI a0)]) (rest := []) (c_M_done l G (x_p (x_r d 176 (g_py (d 176) (g_por a0 sh n) n)) 176 5 0) (nI a0)) (cwV 1 C.1.2.2.2.2 gX12_pays_X12_done rfl rfl rfl (by decide +kernel) ⟨Nat.le_of_ble_eq_true rfl, Nat.le_of_ble_eq_true rfl⟩) x_k175 (q := (RX12, TX12, 16)) rfl rfl rfl rfl (Nat.le_of_ble_eq_true rfl) dX12_pays_71 ⟨Nat.le_of_ble_eq_true rfl, Nat.le_of_ble_eq_true rfl⟩ ?_
        exact a_iret C hlocks hr dX12_pays_74 rfl (by simp only [g_ok, x_p, x_r_r, x_r_same])
      · skip
        have hlt := x_nge h35 hk
        refine a_aload_n C dX12_pays_38 2 rfl ?_
        refine a_getR C (k := 175) iX12 x_k175 rfl (j := 0) rfl (by decide) (by decide +kernel) dX12_pays_39 ?_
        refine a_bipush C dX12_pays_42 (v := 54) (by decide) ?_
        refine a_iload_n C dX12_pays_44 0 rfl ?_
        refine a_iadd C dX12_pays_45 ?_
        refine a_dup2 C dX12_pays_46 rfl rfl ?_
        refine a_ialdN C (k := 176) x_k176 (i := 54 + k) (x_add2 (a := 54) (b := k) rfl rfl) (by omega) (by first | decide | omega) dX12_pays_47 ?_
        refine a_top (y := (d 176 (54 + k))) (by rw [x_r_same, g_py_out (by omega)]) ?_
        refine a_aload_n C dX12_pays_48 2 rfl ?_
        refine a_iload_n C dX12_pays_49 0 rfl ?_
        refine a_iload_n C dX12_pays_50 1 rfl ?_
        refine a_callV C (k := 175) (As := [.int (nI k), .int (nI a0)]) (rest := [.int (d 176 (54 + k)), .int (54 + (nI k)), .ref (x_b G + 176)]) (c_M_portion l G (x_r d 176 (g_py (d 176) (g_por a0 sh n) k)) a0 sh k n (by rw [x_r_same, g_py_out (by omega)]; exact hn) h8 hlt (fun j hj => by rw [x_r_same, g_py_out (by omega)]; exact hs j hj) hs9 hS ha0) (cwV 2 C.1.2.2.2.2 gX12_pays_X12_portion rfl rfl rfl (by decide +kernel) ⟨Nat.le_of_ble_eq_true rfl, Nat.le_of_ble_eq_true rfl⟩) x_k175 (q := (RX12, TX12, 16)) rfl rfl rfl rfl (Nat.le_of_ble_eq_true rfl) dX12_pays_51 ⟨Nat.le_of_ble_eq_true rfl, Nat.le_of_ble_eq_true rfl⟩ ?_
        refine a_iadd C dX12_pays_54 ?_
        refine a_iastN C (k := 176) x_k176 (i := 54 + k) (x_add2 (a := 54) (b := k) rfl rfl) (by omega) (by first | decide | omega) dX12_pays_55 ?_
        refine a_iinc C dX12_pays_56 0 rfl (v := (nI (k + 1))) (x_inc k) (by decide) (lst2 := [(2, .int (nI (k + 1))), (1, .int (nI a0)), (0, .ref (x_b G + 175))]) rfl ?_
        refine a_goto C dX12_pays_59 (tgt := 28) (by decide) ?_
        refine a_sub (lst2 := [(2, .int (nI (k + 1))), (1, .int (nI a0)), (0, .ref (x_b G + 175))]) [0, 1, 2] rfl ?_
        refine a_to (lst2 := [(2, .int (nI ((k + 1)))), (1, .int (nI a0)), (0, .ref (x_b G + 175))]) (st2 := []) (d2 := x_r d 176 (g_py (d 176) (g_por a0 sh n) ((k + 1)))) rfl rfl (x_p_r2 g_py_s).symm ?_
        exact ih (k + 1) (by omega) (by omega) 
  refine a_sub (lst2 := [(2, .int 0), (1, .int (nI a0)), (0, .ref (x_b G + 175))]) [0, 1, 2] rfl ?_
  refine a_toD (d2 := x_r d 176 (g_py (d 176) (g_por a0 sh n) 0)) (by rw [g_py_0]; exact x_r_id d 176) ?_
  exact L28 (n + 1) 0 (by omega) (by omega)

set_option maxHeartbeats 1000000 in
set_option maxRecDepth 100000 in
theorem c_M_portionOf_1 (l : Launch) (G : xG) (d : xd) (x : Int32) (n : Nat) (hn : d 176 0 = nI n) (h8 : n ≤ 8) (hx : ¬ (0 ≤ x ∧ x < nI n)) (u : Int32) : x_M G l yX12_portionOf wsX12_portionOf 5 0 0 [.ref (x_b G + 175), .int x, .int u] d (some (.int 0)) (g_th d 1) := by
  refine x_start (cc := cX12_portionOf) (maxL := 3) (ret := (some .int)) (own := RX12) (by decide) rfl rfl (Nat.le_of_ble_eq_true rfl) (lst := [(0, .ref (x_b G + 175)), (1, .int x), (2, .int u)]) rfl ?_
  intro p e s m args below meth c C hr hlocks
  refine a_aload_n C dX12_portionOf_0 0 rfl ?_
  refine a_iload_n C dX12_portionOf_1 1 rfl ?_
  refine a_callV C (k := 175) (As := [.int x]) (rest := []) (c_M_isLamp_f l G d x n hn h8 hx) (cwV 1 C.1.2.2.2.2 gX12_portionOf_X12_isLamp rfl rfl rfl (by decide +kernel) ⟨Nat.le_of_ble_eq_true rfl, Nat.le_of_ble_eq_true rfl⟩) x_k175 (q := (RX12, TX12, 16)) rfl rfl rfl rfl (Nat.le_of_ble_eq_true rfl) dX12_portionOf_2 ⟨Nat.le_of_ble_eq_true rfl, Nat.le_of_ble_eq_true rfl⟩ ?_
  refine a_if_ne C dX12_portionOf_5 (tgt := 14) (by decide) (fun h => absurd h (by decide)) (fun _ => ?_)
  refine a_aload_n C dX12_portionOf_8 0 rfl ?_
  refine a_iconst C dX12_portionOf_9 (v := 1) (by decide) ?_
  refine a_callV C (k := 175) (As := [.int 1]) (rest := []) (c_M_fails l G d 1) (cwV 1 C.1.2.2.2.2 gX12_portionOf_X12_fails rfl rfl rfl (by decide +kernel) ⟨Nat.le_of_ble_eq_true rfl, Nat.le_of_ble_eq_true rfl⟩) x_k175 (q := (RX12, TX12, 16)) rfl rfl rfl rfl (Nat.le_of_ble_eq_true rfl) dX12_portionOf_10 ⟨Nat.le_of_ble_eq_true rfl, Nat.le_of_ble_eq_true rfl⟩ ?_
  exact a_iret C hlocks hr dX12_portionOf_13 rfl rfl

set_option maxHeartbeats 1000000 in
set_option maxRecDepth 100000 in
theorem c_M_portionOf_2 (l : Launch) (G : xG) (d : xd) (i n : Nat) (hn : d 176 0 = nI n) (h8 : n ≤ 8) (hi : i < n) (u : Int32) (hu : ¬ (0 ≤ u ∧ u ≤ 999)) : x_M G l yX12_portionOf wsX12_portionOf 5 0 0 [.ref (x_b G + 175), .int (nI i), .int u] d (some (.int 0)) (g_th d 2) := by
  refine x_start (cc := cX12_portionOf) (maxL := 3) (ret := (some .int)) (own := RX12) (by decide) rfl rfl (Nat.le_of_ble_eq_true rfl) (lst := [(0, .ref (x_b G + 175)), (1, .int (nI i)), (2, .int u)]) rfl ?_
  intro p e s m args below meth c C hr hlocks
  refine a_aload_n C dX12_portionOf_0 0 rfl ?_
  refine a_iload_n C dX12_portionOf_1 1 rfl ?_
  refine a_callV C (k := 175) (As := [.int (nI i)]) (rest := []) (c_M_isLamp_t l G d i n hn h8 hi) (cwV 1 C.1.2.2.2.2 gX12_portionOf_X12_isLamp rfl rfl rfl (by decide +kernel) ⟨Nat.le_of_ble_eq_true rfl, Nat.le_of_ble_eq_true rfl⟩) x_k175 (q := (RX12, TX12, 16)) rfl rfl rfl rfl (Nat.le_of_ble_eq_true rfl) dX12_portionOf_2 ⟨Nat.le_of_ble_eq_true rfl, Nat.le_of_ble_eq_true rfl⟩ ?_
  refine a_if_ne C dX12_portionOf_5 (tgt := 14) (by decide) (fun _ => ?_) (fun h => absurd h (by decide))
  refine a_iload_n C dX12_portionOf_14 2 rfl ?_
  refine a_iconst C dX12_portionOf_15 (v := 0) (by decide) ?_
  refine a_sipush C dX12_portionOf_16 (v := 999) (by decide) ?_
  refine a_callS C (As := [.int u, .int 0, .int 999]) (rest := []) (c_M_in_f l G d u 0 999 hu) (va_cwS 3 C.1.2.2.2.2 gX12_portionOf_X12_in rfl rfl rfl (by decide +kernel) ⟨Nat.le_of_ble_eq_true rfl, Nat.le_of_ble_eq_true rfl⟩) rfl rfl (Nat.le_of_ble_eq_true rfl) dX12_portionOf_19 ⟨Nat.le_of_ble_eq_true rfl, Nat.le_of_ble_eq_true rfl⟩ ?_
  refine a_if_eq C dX12_portionOf_22 (tgt := 38) (by decide) (fun _ => ?_) (fun h => absurd h (by decide))
  refine a_aload_n C dX12_portionOf_38 0 rfl ?_
  refine a_iconst C dX12_portionOf_39 (v := 2) (by decide) ?_
  refine a_callV C (k := 175) (As := [.int 2]) (rest := []) (c_M_fails l G d 2) (cwV 1 C.1.2.2.2.2 gX12_portionOf_X12_fails rfl rfl rfl (by decide +kernel) ⟨Nat.le_of_ble_eq_true rfl, Nat.le_of_ble_eq_true rfl⟩) x_k175 (q := (RX12, TX12, 16)) rfl rfl rfl rfl (Nat.le_of_ble_eq_true rfl) dX12_portionOf_40 ⟨Nat.le_of_ble_eq_true rfl, Nat.le_of_ble_eq_true rfl⟩ ?_
  exact a_iret C hlocks hr dX12_portionOf_43 rfl rfl

set_option maxHeartbeats 1000000 in
set_option maxRecDepth 100000 in
theorem c_M_portionOf (l : Launch) (G : xG) (d : xd) (a0 : Nat) (sh : Nat → Nat) (i n : Nat) (hn : d 176 0 = nI n) (h8 : n ≤ 8) (hi : i < n) (hs : ∀ j, j < n → d 176 (14 + j) = nI (sh j)) (hs9 : ∀ j, j < n → sh j ≤ 9) (hS : 1 ≤ f_sn sh n) (ha0 : a0 < 100000) (hu : 0 ≤ nI a0 ∧ nI a0 ≤ 999) : x_M G l yX12_portionOf wsX12_portionOf 5 0 0 [.ref (x_b G + 175), .int (nI i), .int (nI a0)] d (some (.int (nI (g_por a0 sh n i)))) (g_th d 0) := by
  refine x_start (cc := cX12_portionOf) (maxL := 3) (ret := (some .int)) (own := RX12) (by decide) rfl rfl (Nat.le_of_ble_eq_true rfl) (lst := [(0, .ref (x_b G + 175)), (1, .int (nI i)), (2, .int (nI a0))]) rfl ?_
  intro p e s m args below meth c C hr hlocks
  refine a_aload_n C dX12_portionOf_0 0 rfl ?_
  refine a_iload_n C dX12_portionOf_1 1 rfl ?_
  refine a_callV C (k := 175) (As := [.int (nI i)]) (rest := []) (c_M_isLamp_t l G d i n hn h8 hi) (cwV 1 C.1.2.2.2.2 gX12_portionOf_X12_isLamp rfl rfl rfl (by decide +kernel) ⟨Nat.le_of_ble_eq_true rfl, Nat.le_of_ble_eq_true rfl⟩) x_k175 (q := (RX12, TX12, 16)) rfl rfl rfl rfl (Nat.le_of_ble_eq_true rfl) dX12_portionOf_2 ⟨Nat.le_of_ble_eq_true rfl, Nat.le_of_ble_eq_true rfl⟩ ?_
  refine a_if_ne C dX12_portionOf_5 (tgt := 14) (by decide) (fun _ => ?_) (fun h => absurd h (by decide))
  refine a_iload_n C dX12_portionOf_14 2 rfl ?_
  refine a_iconst C dX12_portionOf_15 (v := 0) (by decide) ?_
  refine a_sipush C dX12_portionOf_16 (v := 999) (by decide) ?_
  refine a_callS C (As := [.int (nI a0), .int 0, .int 999]) (rest := []) (c_M_in_t l G d (nI a0) 0 999 hu) (va_cwS 3 C.1.2.2.2.2 gX12_portionOf_X12_in rfl rfl rfl (by decide +kernel) ⟨Nat.le_of_ble_eq_true rfl, Nat.le_of_ble_eq_true rfl⟩) rfl rfl (Nat.le_of_ble_eq_true rfl) dX12_portionOf_19 ⟨Nat.le_of_ble_eq_true rfl, Nat.le_of_ble_eq_true rfl⟩ ?_
  refine a_if_eq C dX12_portionOf_22 (tgt := 38) (by decide) (fun h => absurd h (by decide)) (fun _ => ?_)
  refine a_aload_n C dX12_portionOf_25 0 rfl ?_
  refine a_aload_n C dX12_portionOf_26 0 rfl ?_
  refine a_iload_n C dX12_portionOf_27 1 rfl ?_
  refine a_iload_n C dX12_portionOf_28 2 rfl ?_
  refine a_callV C (k := 175) (As := [.int (nI i), .int (nI a0)]) (rest := [.ref (x_b G + 175)]) (c_M_portion l G d a0 sh i n hn h8 hi hs hs9 hS ha0) (cwV 2 C.1.2.2.2.2 gX12_portionOf_X12_portion rfl rfl rfl (by decide +kernel) ⟨Nat.le_of_ble_eq_true rfl, Nat.le_of_ble_eq_true rfl⟩) x_k175 (q := (RX12, TX12, 16)) rfl rfl rfl rfl (Nat.le_of_ble_eq_true rfl) dX12_portionOf_29 ⟨Nat.le_of_ble_eq_true rfl, Nat.le_of_ble_eq_true rfl⟩ ?_
  refine a_callV C (k := 175) (As := [.int (nI (g_por a0 sh n i))]) (rest := []) (c_M_done l G d (nI (g_por a0 sh n i))) (cwV 1 C.1.2.2.2.2 gX12_portionOf_X12_done rfl rfl rfl (by decide +kernel) ⟨Nat.le_of_ble_eq_true rfl, Nat.le_of_ble_eq_true rfl⟩) x_k175 (q := (RX12, TX12, 16)) rfl rfl rfl rfl (Nat.le_of_ble_eq_true rfl) dX12_portionOf_32 ⟨Nat.le_of_ble_eq_true rfl, Nat.le_of_ble_eq_true rfl⟩ ?_
  refine a_goto C dX12_portionOf_35 (tgt := 43) (by decide) ?_
  exact a_iret C hlocks hr dX12_portionOf_43 rfl rfl

set_option maxHeartbeats 1000000 in
set_option maxRecDepth 100000 in
theorem c_M_portionByRounds_1 (l : Launch) (G : xG) (d : xd) (x : Int32) (n : Nat) (hn : d 176 0 = nI n) (h8 : n ≤ 8) (hx : ¬ (0 ≤ x ∧ x < nI n)) (u : Int32) : x_M G l yX12_portionByRounds wsX12_portionByRounds 6 0 0 [.ref (x_b G + 175), .int x, .int u] d (some (.int 0)) (g_th d 1) := by
  refine x_start (cc := cX12_portionByRounds) (maxL := 3) (ret := (some .int)) (own := RX12) (by decide) rfl rfl (Nat.le_of_ble_eq_true rfl) (lst := [(0, .ref (x_b G + 175)), (1, .int x), (2, .int u)]) rfl ?_
  intro p e s m args below meth c C hr hlocks
  refine a_aload_n C dX12_portionByRounds_0 0 rfl ?_
  refine a_iload_n C dX12_portionByRounds_1 1 rfl ?_
  refine a_iload_n C dX12_portionByRounds_2 2 rfl ?_
  refine a_callV C (k := 175) (As := [.int x, .int u]) (rest := []) (c_M_portionOf_1 l G d x n hn h8 hx u) (cwV 2 C.1.2.2.2.2 gX12_portionByRounds_X12_portionOf rfl rfl rfl (by decide +kernel) ⟨Nat.le_of_ble_eq_true rfl, Nat.le_of_ble_eq_true rfl⟩) x_k175 (q := (RX12, TX12, 16)) rfl rfl rfl rfl (Nat.le_of_ble_eq_true rfl) dX12_portionByRounds_3 ⟨Nat.le_of_ble_eq_true rfl, Nat.le_of_ble_eq_true rfl⟩ ?_
  exact a_iret C hlocks hr dX12_portionByRounds_6 rfl rfl

set_option maxHeartbeats 1000000 in
set_option maxRecDepth 100000 in
theorem c_M_portionByRounds_2 (l : Launch) (G : xG) (d : xd) (i n : Nat) (hn : d 176 0 = nI n) (h8 : n ≤ 8) (hi : i < n) (u : Int32) (hu : ¬ (0 ≤ u ∧ u ≤ 999)) : x_M G l yX12_portionByRounds wsX12_portionByRounds 6 0 0 [.ref (x_b G + 175), .int (nI i), .int u] d (some (.int 0)) (g_th d 2) := by
  refine x_start (cc := cX12_portionByRounds) (maxL := 3) (ret := (some .int)) (own := RX12) (by decide) rfl rfl (Nat.le_of_ble_eq_true rfl) (lst := [(0, .ref (x_b G + 175)), (1, .int (nI i)), (2, .int u)]) rfl ?_
  intro p e s m args below meth c C hr hlocks
  refine a_aload_n C dX12_portionByRounds_0 0 rfl ?_
  refine a_iload_n C dX12_portionByRounds_1 1 rfl ?_
  refine a_iload_n C dX12_portionByRounds_2 2 rfl ?_
  refine a_callV C (k := 175) (As := [.int (nI i), .int u]) (rest := []) (c_M_portionOf_2 l G d i n hn h8 hi u hu) (cwV 2 C.1.2.2.2.2 gX12_portionByRounds_X12_portionOf rfl rfl rfl (by decide +kernel) ⟨Nat.le_of_ble_eq_true rfl, Nat.le_of_ble_eq_true rfl⟩) x_k175 (q := (RX12, TX12, 16)) rfl rfl rfl rfl (Nat.le_of_ble_eq_true rfl) dX12_portionByRounds_3 ⟨Nat.le_of_ble_eq_true rfl, Nat.le_of_ble_eq_true rfl⟩ ?_
  exact a_iret C hlocks hr dX12_portionByRounds_6 rfl rfl

set_option maxHeartbeats 1000000 in
set_option maxRecDepth 100000 in
theorem c_M_portionByRounds (l : Launch) (G : xG) (d : xd) (a0 : Nat) (sh : Nat → Nat) (i n : Nat) (hn : d 176 0 = nI n) (h8 : n ≤ 8) (hi : i < n) (hs : ∀ j, j < n → d 176 (14 + j) = nI (sh j)) (hs9 : ∀ j, j < n → sh j ≤ 9) (hS : 1 ≤ f_sn sh n) (ha0 : a0 < 100000) (hu : 0 ≤ nI a0 ∧ nI a0 ≤ 999) : x_M G l yX12_portionByRounds wsX12_portionByRounds 6 0 0 [.ref (x_b G + 175), .int (nI i), .int (nI a0)] d (some (.int (nI (g_por a0 sh n i)))) (g_th d 0) := by
  refine x_start (cc := cX12_portionByRounds) (maxL := 3) (ret := (some .int)) (own := RX12) (by decide) rfl rfl (Nat.le_of_ble_eq_true rfl) (lst := [(0, .ref (x_b G + 175)), (1, .int (nI i)), (2, .int (nI a0))]) rfl ?_
  intro p e s m args below meth c C hr hlocks
  refine a_aload_n C dX12_portionByRounds_0 0 rfl ?_
  refine a_iload_n C dX12_portionByRounds_1 1 rfl ?_
  refine a_iload_n C dX12_portionByRounds_2 2 rfl ?_
  refine a_callV C (k := 175) (As := [.int (nI i), .int (nI a0)]) (rest := []) (c_M_portionOf l G d a0 sh i n hn h8 hi hs hs9 hS ha0 hu) (cwV 2 C.1.2.2.2.2 gX12_portionByRounds_X12_portionOf rfl rfl rfl (by decide +kernel) ⟨Nat.le_of_ble_eq_true rfl, Nat.le_of_ble_eq_true rfl⟩) x_k175 (q := (RX12, TX12, 16)) rfl rfl rfl rfl (Nat.le_of_ble_eq_true rfl) dX12_portionByRounds_3 ⟨Nat.le_of_ble_eq_true rfl, Nat.le_of_ble_eq_true rfl⟩ ?_
  exact a_iret C hlocks hr dX12_portionByRounds_6 rfl rfl

def g_rdy (z : Nat → Int32) (i : Nat) : Bool := decide (z (30 + i) = 0 ∧ z (22 + i) ≤ z (38 + i) ∧ 0 < z (46 + i))
set_option maxHeartbeats 1000000 in
set_option maxRecDepth 100000 in
theorem c_M_burns (l : Launch) (G : xG) (d : xd) (i : Nat) (hi : i < 8) : x_M G l yX12_burns wsX12_burns 1 0 0 [.ref (x_b G + 175), .int (nI i)] d (some (.int (x_bi (g_rdy (d 176) i = true)))) d := by
  have iX12 : ∀ w ∈ u_ws RX12 TX12 16, w ∈ wsX12_burns := by decide +kernel
  refine x_start (cc := cX12_burns) (maxL := 2) (ret := (some .boolean)) (own := RX12) (by decide) rfl rfl (Nat.le_of_ble_eq_true rfl) (lst := [(0, .ref (x_b G + 175)), (1, .int (nI i))]) rfl ?_
  intro p e s m args below meth c C hr hlocks
  refine a_aload_n C dX12_burns_0 0 rfl ?_
  refine a_getR C (k := 175) iX12 x_k175 rfl (j := 0) rfl (by decide) (by decide +kernel) dX12_burns_1 ?_
  refine a_bipush C dX12_burns_4 (v := 30) (by decide) ?_
  refine a_iload_n C dX12_burns_6 1 rfl ?_
  refine a_iadd C dX12_burns_7 ?_
  refine a_ialdN C (k := 176) x_k176 (i := 30 + i) (x_add2 (a := 30) (b := i) rfl rfl) (by omega) (by first | decide | omega) dX12_burns_8 ?_
  refine a_if_ne C dX12_burns_9 (tgt := 49) (by decide) (fun h9 => ?_) (fun h9 => ?_)
  · skip
    refine a_iconst C dX12_burns_49 (v := 0) (by decide) ?_
    exact a_zret C hlocks hr rfl dX12_burns_50 (x_bi_f (fun h => by have h := of_decide_eq_true h; first | exact h9 h.1 | exact absurd h.2.1 (Int32.not_le.mpr h30) | exact absurd h.2.2 (Int32.not_lt.mpr h42))).symm rfl
  · skip
    refine a_aload_n C dX12_burns_12 0 rfl ?_
    refine a_getR C (k := 175) iX12 x_k175 rfl (j := 0) rfl (by decide) (by decide +kernel) dX12_burns_13 ?_
    refine a_bipush C dX12_burns_16 (v := 38) (by decide) ?_
    refine a_iload_n C dX12_burns_18 1 rfl ?_
    refine a_iadd C dX12_burns_19 ?_
    refine a_ialdN C (k := 176) x_k176 (i := 38 + i) (x_add2 (a := 38) (b := i) rfl rfl) (by omega) (by first | decide | omega) dX12_burns_20 ?_
    refine a_aload_n C dX12_burns_21 0 rfl ?_
    refine a_getR C (k := 175) iX12 x_k175 rfl (j := 0) rfl (by decide) (by decide +kernel) dX12_burns_22 ?_
    refine a_bipush C dX12_burns_25 (v := 22) (by decide) ?_
    refine a_iload_n C dX12_burns_27 1 rfl ?_
    refine a_iadd C dX12_burns_28 ?_
    refine a_ialdN C (k := 176) x_k176 (i := 22 + i) (x_add2 (a := 22) (b := i) rfl rfl) (by omega) (by first | decide | omega) dX12_burns_29 ?_
    refine a_icmp_lt C dX12_burns_30 (tgt := 49) (by decide) (fun h30 => ?_) (fun h30 => ?_)
    · skip
      refine a_iconst C dX12_burns_49 (v := 0) (by decide) ?_
      exact a_zret C hlocks hr rfl dX12_burns_50 (x_bi_f (fun h => by have h := of_decide_eq_true h; first | exact h9 h.1 | exact absurd h.2.1 (Int32.not_le.mpr h30) | exact absurd h.2.2 (Int32.not_lt.mpr h42))).symm rfl
    · skip
      refine a_aload_n C dX12_burns_33 0 rfl ?_
      refine a_getR C (k := 175) iX12 x_k175 rfl (j := 0) rfl (by decide) (by decide +kernel) dX12_burns_34 ?_
      refine a_bipush C dX12_burns_37 (v := 46) (by decide) ?_
      refine a_iload_n C dX12_burns_39 1 rfl ?_
      refine a_iadd C dX12_burns_40 ?_
      refine a_ialdN C (k := 176) x_k176 (i := 46 + i) (x_add2 (a := 46) (b := i) rfl rfl) (by omega) (by first | decide | omega) dX12_burns_41 ?_
      refine a_if_le C dX12_burns_42 (tgt := 49) (by decide) (fun h42 => ?_) (fun h42 => ?_)
      · skip
        refine a_iconst C dX12_burns_49 (v := 0) (by decide) ?_
        exact a_zret C hlocks hr rfl dX12_burns_50 (x_bi_f (fun h => by have h := of_decide_eq_true h; first | exact h9 h.1 | exact absurd h.2.1 (Int32.not_le.mpr h30) | exact absurd h.2.2 (Int32.not_lt.mpr h42))).symm rfl
      · skip
        refine a_iconst C dX12_burns_45 (v := 1) (by decide) ?_
        refine a_goto C dX12_burns_46 (tgt := 50) (by decide) ?_
        exact a_zret C hlocks hr rfl dX12_burns_50 (x_bi_t (decide_eq_true ⟨h9, Int32.not_lt.mp h30, Int32.not_le.mp h42⟩)).symm rfl

set_option maxHeartbeats 1000000 in
set_option maxRecDepth 100000 in
theorem c_M_canBurn_1 (l : Launch) (G : xG) (d : xd) (x : Int32) (n : Nat) (hn : d 176 0 = nI n) (h8 : n ≤ 8) (hx : ¬ (0 ≤ x ∧ x < nI n)) : x_M G l yX12_canBurn wsX12_canBurn 3 0 0 [.ref (x_b G + 175), .int x] d (some (.int 0)) (g_th d 1) := by
  have iX12 : ∀ w ∈ u_ws RX12 TX12 16, w ∈ wsX12_canBurn := by decide +kernel
  refine x_start (cc := cX12_canBurn) (maxL := 2) (ret := (some .boolean)) (own := RX12) (by decide) rfl rfl (Nat.le_of_ble_eq_true rfl) (lst := [(0, .ref (x_b G + 175)), (1, .int x)]) rfl ?_
  intro p e s m args below meth c C hr hlocks
  refine a_aload_n C dX12_canBurn_0 0 rfl ?_
  refine a_aload_n C dX12_canBurn_1 0 rfl ?_
  refine a_iload_n C dX12_canBurn_2 1 rfl ?_
  refine a_callV C (k := 175) (As := [.int x]) (rest := [.ref (x_b G + 175)]) (c_M_isLamp_f l G d x n hn h8 hx) (cwV 1 C.1.2.2.2.2 gX12_canBurn_X12_isLamp rfl rfl rfl (by decide +kernel) ⟨Nat.le_of_ble_eq_true rfl, Nat.le_of_ble_eq_true rfl⟩) x_k175 (q := (RX12, TX12, 16)) rfl rfl rfl rfl (Nat.le_of_ble_eq_true rfl) dX12_canBurn_3 ⟨Nat.le_of_ble_eq_true rfl, Nat.le_of_ble_eq_true rfl⟩ ?_
  refine a_if_eq C dX12_canBurn_6 (tgt := 13) (by decide) (fun _ => ?_) (fun h => absurd h (by decide))
  refine a_iconst C dX12_canBurn_13 (v := 1) (by decide) ?_
  refine a_putI C (k := 175) iX12 tyX12_ok nmX12 x_k175 rfl (j := 12) rfl (by decide) (by decide +kernel) rfl (ty := .int) (by decide +kernel) rfl rfl dX12_canBurn_14 ?_
  refine a_aload_n C dX12_canBurn_17 0 rfl ?_
  refine a_getI C (k := 175) iX12 x_k175 rfl (j := 12) rfl (by decide) (by decide +kernel) dX12_canBurn_18 ?_
  refine a_top (y := 1) (by first | rw [x_p_at] | rfl) ?_
  refine a_top (y := 1) rfl ?_
  refine a_if_ne C dX12_canBurn_21 (tgt := 36) (by decide) (fun _ => ?_) (fun h => absurd h (by decide))
  refine a_iconst C dX12_canBurn_36 (v := 0) (by decide) ?_
  exact a_zret C hlocks hr rfl dX12_canBurn_37 rfl rfl

set_option maxHeartbeats 1000000 in
set_option maxRecDepth 100000 in
theorem c_M_canBurn (l : Launch) (G : xG) (d : xd) (i n : Nat) (hn : d 176 0 = nI n) (h8 : n ≤ 8) (hi : i < n) : x_M G l yX12_canBurn wsX12_canBurn 3 0 0 [.ref (x_b G + 175), .int (nI i)] d (some (.int (x_bi (g_rdy (d 176) i = true)))) (g_th d 0) := by
  have iX12 : ∀ w ∈ u_ws RX12 TX12 16, w ∈ wsX12_canBurn := by decide +kernel
  refine x_start (cc := cX12_canBurn) (maxL := 2) (ret := (some .boolean)) (own := RX12) (by decide) rfl rfl (Nat.le_of_ble_eq_true rfl) (lst := [(0, .ref (x_b G + 175)), (1, .int (nI i))]) rfl ?_
  intro p e s m args below meth c C hr hlocks
  refine a_aload_n C dX12_canBurn_0 0 rfl ?_
  refine a_aload_n C dX12_canBurn_1 0 rfl ?_
  refine a_iload_n C dX12_canBurn_2 1 rfl ?_
  refine a_callV C (k := 175) (As := [.int (nI i)]) (rest := [.ref (x_b G + 175)]) (c_M_isLamp_t l G d i n hn h8 hi) (cwV 1 C.1.2.2.2.2 gX12_canBurn_X12_isLamp rfl rfl rfl (by decide +kernel) ⟨Nat.le_of_ble_eq_true rfl, Nat.le_of_ble_eq_true rfl⟩) x_k175 (q := (RX12, TX12, 16)) rfl rfl rfl rfl (Nat.le_of_ble_eq_true rfl) dX12_canBurn_3 ⟨Nat.le_of_ble_eq_true rfl, Nat.le_of_ble_eq_true rfl⟩ ?_
  refine a_if_eq C dX12_canBurn_6 (tgt := 13) (by decide) (fun h => absurd h (by decide)) (fun _ => ?_)
  refine a_iconst C dX12_canBurn_9 (v := 0) (by decide) ?_
  refine a_goto C dX12_canBurn_10 (tgt := 14) (by decide) ?_
  refine a_putI C (k := 175) iX12 tyX12_ok nmX12 x_k175 rfl (j := 12) rfl (by decide) (by decide +kernel) rfl (ty := .int) (by decide +kernel) rfl rfl dX12_canBurn_14 ?_
  refine a_aload_n C dX12_canBurn_17 0 rfl ?_
  refine a_getI C (k := 175) iX12 x_k175 rfl (j := 12) rfl (by decide) (by decide +kernel) dX12_canBurn_18 ?_
  refine a_top (y := 0) (by first | rw [x_p_at] | rfl) ?_
  refine a_top (y := 0) rfl ?_
  refine a_if_ne C dX12_canBurn_21 (tgt := 36) (by decide) (fun h => absurd h (by decide)) (fun _ => ?_)
  refine a_aload_n C dX12_canBurn_24 0 rfl ?_
  refine a_iload_n C dX12_canBurn_25 1 rfl ?_
  refine a_callV C (k := 175) (As := [.int (nI i)]) (rest := []) (c_M_burns l G (x_p d 175 12 0) i (by omega)) (cwV 1 C.1.2.2.2.2 gX12_canBurn_X12_burns rfl rfl rfl (by decide +kernel) ⟨Nat.le_of_ble_eq_true rfl, Nat.le_of_ble_eq_true rfl⟩) x_k175 (q := (RX12, TX12, 16)) rfl rfl rfl rfl (Nat.le_of_ble_eq_true rfl) dX12_canBurn_26 ⟨Nat.le_of_ble_eq_true rfl, Nat.le_of_ble_eq_true rfl⟩ ?_
  refine a_if_eq C dX12_canBurn_29 (tgt := 36) (by decide) (fun h29 => ?_) (fun h29 => ?_)
  · skip
    refine a_iconst C dX12_canBurn_36 (v := 0) (by decide) ?_
    exact a_zret C hlocks hr rfl dX12_canBurn_37 h29.symm rfl
  · skip
    refine a_iconst C dX12_canBurn_32 (v := 1) (by decide) ?_
    refine a_goto C dX12_canBurn_33 (tgt := 37) (by decide) ?_
    exact a_zret C hlocks hr rfl dX12_canBurn_37 (x_bi_t (x_bi_nz h29)).symm rfl

def g_las (z : Nat → Int32) (i : Nat) : Int32 := if z (38 + i) / z (22 + i) < z (46 + i) then z (38 + i) / z (22 + i) else z (46 + i)
set_option maxHeartbeats 1000000 in
set_option maxRecDepth 100000 in
theorem c_M_lasting (l : Launch) (G : xG) (d : xd) (i : Nat) (hi : i < 8) (hb : ¬ d 176 (22 + i) = 0) : x_M G l yX12_lasting wsX12_lasting 2 0 0 [.ref (x_b G + 175), .int (nI i)] d (some (.int (g_las (d 176) i))) d := by
  have iX12 : ∀ w ∈ u_ws RX12 TX12 16, w ∈ wsX12_lasting := by decide +kernel
  refine x_start (cc := cX12_lasting) (maxL := 2) (ret := (some .int)) (own := RX12) (by decide) rfl rfl (Nat.le_of_ble_eq_true rfl) (lst := [(0, .ref (x_b G + 175)), (1, .int (nI i))]) rfl ?_
  intro p e s m args below meth c C hr hlocks
  refine a_aload_n C dX12_lasting_0 0 rfl ?_
  refine a_getR C (k := 175) iX12 x_k175 rfl (j := 0) rfl (by decide) (by decide +kernel) dX12_lasting_1 ?_
  refine a_bipush C dX12_lasting_4 (v := 38) (by decide) ?_
  refine a_iload_n C dX12_lasting_6 1 rfl ?_
  refine a_iadd C dX12_lasting_7 ?_
  refine a_ialdN C (k := 176) x_k176 (i := 38 + i) (x_add2 (a := 38) (b := i) rfl rfl) (by omega) (by first | decide | omega) dX12_lasting_8 ?_
  refine a_aload_n C dX12_lasting_9 0 rfl ?_
  refine a_getR C (k := 175) iX12 x_k175 rfl (j := 0) rfl (by decide) (by decide +kernel) dX12_lasting_10 ?_
  refine a_bipush C dX12_lasting_13 (v := 22) (by decide) ?_
  refine a_iload_n C dX12_lasting_15 1 rfl ?_
  refine a_iadd C dX12_lasting_16 ?_
  refine a_ialdN C (k := 176) x_k176 (i := 22 + i) (x_add2 (a := 22) (b := i) rfl rfl) (by omega) (by first | decide | omega) dX12_lasting_17 ?_
  refine a_idiv C dX12_lasting_18 hb ?_
  refine a_aload_n C dX12_lasting_19 0 rfl ?_
  refine a_getR C (k := 175) iX12 x_k175 rfl (j := 0) rfl (by decide) (by decide +kernel) dX12_lasting_20 ?_
  refine a_bipush C dX12_lasting_23 (v := 46) (by decide) ?_
  refine a_iload_n C dX12_lasting_25 1 rfl ?_
  refine a_iadd C dX12_lasting_26 ?_
  refine a_ialdN C (k := 176) x_k176 (i := 46 + i) (x_add2 (a := 46) (b := i) rfl rfl) (by omega) (by first | decide | omega) dX12_lasting_27 ?_
  refine a_callS C (As := [.int ((d 176 (38 + i)) / (d 176 (22 + i))), .int (d 176 (46 + i))]) (rest := []) (c_M_least l G d (((d 176 (38 + i)) / (d 176 (22 + i)))) ((d 176 (46 + i)))) (va_cwS 2 C.1.2.2.2.2 gX12_lasting_X12_least rfl rfl rfl (by decide +kernel) ⟨Nat.le_of_ble_eq_true rfl, Nat.le_of_ble_eq_true rfl⟩) rfl rfl (Nat.le_of_ble_eq_true rfl) dX12_lasting_28 ⟨Nat.le_of_ble_eq_true rfl, Nat.le_of_ble_eq_true rfl⟩ ?_
  exact a_iret C hlocks hr dX12_lasting_31 rfl rfl

set_option maxHeartbeats 1000000 in
set_option maxRecDepth 100000 in
theorem c_M_nightsOf_1 (l : Launch) (G : xG) (d : xd) (x : Int32) (n : Nat) (hn : d 176 0 = nI n) (h8 : n ≤ 8) (hx : ¬ (0 ≤ x ∧ x < nI n)) : x_M G l yX12_nightsOf wsX12_nightsOf 4 0 0 [.ref (x_b G + 175), .int x] d (some (.int 0)) (g_th d 1) := by
  refine x_start (cc := cX12_nightsOf) (maxL := 2) (ret := (some .int)) (own := RX12) (by decide) rfl rfl (Nat.le_of_ble_eq_true rfl) (lst := [(0, .ref (x_b G + 175)), (1, .int x)]) rfl ?_
  intro p e s m args below meth c C hr hlocks
  refine a_aload_n C dX12_nightsOf_0 0 rfl ?_
  refine a_iload_n C dX12_nightsOf_1 1 rfl ?_
  refine a_callV C (k := 175) (As := [.int x]) (rest := []) (c_M_isLamp_f l G d x n hn h8 hx) (cwV 1 C.1.2.2.2.2 gX12_nightsOf_X12_isLamp rfl rfl rfl (by decide +kernel) ⟨Nat.le_of_ble_eq_true rfl, Nat.le_of_ble_eq_true rfl⟩) x_k175 (q := (RX12, TX12, 16)) rfl rfl rfl rfl (Nat.le_of_ble_eq_true rfl) dX12_nightsOf_2 ⟨Nat.le_of_ble_eq_true rfl, Nat.le_of_ble_eq_true rfl⟩ ?_
  refine a_if_eq C dX12_nightsOf_5 (tgt := 20) (by decide) (fun _ => ?_) (fun h => absurd h (by decide))
  refine a_aload_n C dX12_nightsOf_20 0 rfl ?_
  refine a_iconst C dX12_nightsOf_21 (v := 1) (by decide) ?_
  refine a_callV C (k := 175) (As := [.int 1]) (rest := []) (c_M_fails l G d 1) (cwV 1 C.1.2.2.2.2 gX12_nightsOf_X12_fails rfl rfl rfl (by decide +kernel) ⟨Nat.le_of_ble_eq_true rfl, Nat.le_of_ble_eq_true rfl⟩) x_k175 (q := (RX12, TX12, 16)) rfl rfl rfl rfl (Nat.le_of_ble_eq_true rfl) dX12_nightsOf_22 ⟨Nat.le_of_ble_eq_true rfl, Nat.le_of_ble_eq_true rfl⟩ ?_
  exact a_iret C hlocks hr dX12_nightsOf_25 rfl rfl

set_option maxHeartbeats 1000000 in
set_option maxRecDepth 100000 in
theorem c_M_nightsOf (l : Launch) (G : xG) (d : xd) (i n : Nat) (hn : d 176 0 = nI n) (h8 : n ≤ 8) (hi : i < n) (hb : ¬ d 176 (22 + i) = 0) : x_M G l yX12_nightsOf wsX12_nightsOf 4 0 0 [.ref (x_b G + 175), .int (nI i)] d (some (.int (g_las (d 176) i))) (g_th d 0) := by
  refine x_start (cc := cX12_nightsOf) (maxL := 2) (ret := (some .int)) (own := RX12) (by decide) rfl rfl (Nat.le_of_ble_eq_true rfl) (lst := [(0, .ref (x_b G + 175)), (1, .int (nI i))]) rfl ?_
  intro p e s m args below meth c C hr hlocks
  refine a_aload_n C dX12_nightsOf_0 0 rfl ?_
  refine a_iload_n C dX12_nightsOf_1 1 rfl ?_
  refine a_callV C (k := 175) (As := [.int (nI i)]) (rest := []) (c_M_isLamp_t l G d i n hn h8 hi) (cwV 1 C.1.2.2.2.2 gX12_nightsOf_X12_isLamp rfl rfl rfl (by decide +kernel) ⟨Nat.le_of_ble_eq_true rfl, Nat.le_of_ble_eq_true rfl⟩) x_k175 (q := (RX12, TX12, 16)) rfl rfl rfl rfl (Nat.le_of_ble_eq_true rfl) dX12_nightsOf_2 ⟨Nat.le_of_ble_eq_true rfl, Nat.le_of_ble_eq_true rfl⟩ ?_
  refine a_if_eq C dX12_nightsOf_5 (tgt := 20) (by decide) (fun h => absurd h (by decide)) (fun _ => ?_)
  refine a_aload_n C dX12_nightsOf_8 0 rfl ?_
  refine a_aload_n C dX12_nightsOf_9 0 rfl ?_
  refine a_iload_n C dX12_nightsOf_10 1 rfl ?_
  refine a_callV C (k := 175) (As := [.int (nI i)]) (rest := [.ref (x_b G + 175)]) (c_M_lasting l G d i (by omega) hb) (cwV 1 C.1.2.2.2.2 gX12_nightsOf_X12_lasting rfl rfl rfl (by decide +kernel) ⟨Nat.le_of_ble_eq_true rfl, Nat.le_of_ble_eq_true rfl⟩) x_k175 (q := (RX12, TX12, 16)) rfl rfl rfl rfl (Nat.le_of_ble_eq_true rfl) dX12_nightsOf_11 ⟨Nat.le_of_ble_eq_true rfl, Nat.le_of_ble_eq_true rfl⟩ ?_
  refine a_callV C (k := 175) (As := [.int (g_las (d 176) i)]) (rest := []) (c_M_done l G d (g_las (d 176) i)) (cwV 1 C.1.2.2.2.2 gX12_nightsOf_X12_done rfl rfl rfl (by decide +kernel) ⟨Nat.le_of_ble_eq_true rfl, Nat.le_of_ble_eq_true rfl⟩) x_k175 (q := (RX12, TX12, 16)) rfl rfl rfl rfl (Nat.le_of_ble_eq_true rfl) dX12_nightsOf_14 ⟨Nat.le_of_ble_eq_true rfl, Nat.le_of_ble_eq_true rfl⟩ ?_
  refine a_goto C dX12_nightsOf_17 (tgt := 25) (by decide) ?_
  exact a_iret C hlocks hr dX12_nightsOf_25 rfl rfl

set_option maxHeartbeats 1000000 in
set_option maxRecDepth 100000 in
theorem c_M_nightsBySimulation_1 (l : Launch) (G : xG) (d : xd) (x : Int32) (n : Nat) (hn : d 176 0 = nI n) (h8 : n ≤ 8) (hx : ¬ (0 ≤ x ∧ x < nI n)) : x_M G l yX12_nightsBySimulation wsX12_nightsBySimulation 5 0 0 [.ref (x_b G + 175), .int x] d (some (.int 0)) (g_th d 1) := by
  refine x_start (cc := cX12_nightsBySimulation) (maxL := 2) (ret := (some .int)) (own := RX12) (by decide) rfl rfl (Nat.le_of_ble_eq_true rfl) (lst := [(0, .ref (x_b G + 175)), (1, .int x)]) rfl ?_
  intro p e s m args below meth c C hr hlocks
  refine a_aload_n C dX12_nightsBySimulation_0 0 rfl ?_
  refine a_iload_n C dX12_nightsBySimulation_1 1 rfl ?_
  refine a_callV C (k := 175) (As := [.int x]) (rest := []) (c_M_nightsOf_1 l G d x n hn h8 hx) (cwV 1 C.1.2.2.2.2 gX12_nightsBySimulation_X12_nightsOf rfl rfl rfl (by decide +kernel) ⟨Nat.le_of_ble_eq_true rfl, Nat.le_of_ble_eq_true rfl⟩) x_k175 (q := (RX12, TX12, 16)) rfl rfl rfl rfl (Nat.le_of_ble_eq_true rfl) dX12_nightsBySimulation_2 ⟨Nat.le_of_ble_eq_true rfl, Nat.le_of_ble_eq_true rfl⟩ ?_
  exact a_iret C hlocks hr dX12_nightsBySimulation_5 rfl rfl

set_option maxHeartbeats 1000000 in
set_option maxRecDepth 100000 in
theorem c_M_nightsBySimulation (l : Launch) (G : xG) (d : xd) (i n : Nat) (hn : d 176 0 = nI n) (h8 : n ≤ 8) (hi : i < n) (hb : ¬ d 176 (22 + i) = 0) : x_M G l yX12_nightsBySimulation wsX12_nightsBySimulation 5 0 0 [.ref (x_b G + 175), .int (nI i)] d (some (.int (g_las (d 176) i))) (g_th d 0) := by
  refine x_start (cc := cX12_nightsBySimulation) (maxL := 2) (ret := (some .int)) (own := RX12) (by decide) rfl rfl (Nat.le_of_ble_eq_true rfl) (lst := [(0, .ref (x_b G + 175)), (1, .int (nI i))]) rfl ?_
  intro p e s m args below meth c C hr hlocks
  refine a_aload_n C dX12_nightsBySimulation_0 0 rfl ?_
  refine a_iload_n C dX12_nightsBySimulation_1 1 rfl ?_
  refine a_callV C (k := 175) (As := [.int (nI i)]) (rest := []) (c_M_nightsOf l G d i n hn h8 hi hb) (cwV 1 C.1.2.2.2.2 gX12_nightsBySimulation_X12_nightsOf rfl rfl rfl (by decide +kernel) ⟨Nat.le_of_ble_eq_true rfl, Nat.le_of_ble_eq_true rfl⟩) x_k175 (q := (RX12, TX12, 16)) rfl rfl rfl rfl (Nat.le_of_ble_eq_true rfl) dX12_nightsBySimulation_2 ⟨Nat.le_of_ble_eq_true rfl, Nat.le_of_ble_eq_true rfl⟩ ?_
  exact a_iret C hlocks hr dX12_nightsBySimulation_5 rfl rfl

def g_glow (z : Nat → Int32) (x : Int32) : Nat → Int32
  | 0 => 0
  | i + 1 => g_glow z x i + (if z (6 + i) = x ∧ g_rdy z i = true then z (22 + i) else 0)
set_option maxHeartbeats 1000000 in
set_option maxRecDepth 100000 in
theorem c_M_glow (l : Launch) (G : xG) (d : xd) (x : Int32) (n : Nat) (hn : d 176 0 = nI n) (h8 : n ≤ 8) : x_M G l yX12_glow wsX12_glow 2 0 0 [.ref (x_b G + 175), .int x] d (some (.int (g_glow (d 176) x n))) d := by
  have iX12 : ∀ w ∈ u_ws RX12 TX12 16, w ∈ wsX12_glow := by decide +kernel
  refine x_start (cc := cX12_glow) (maxL := 4) (ret := (some .int)) (own := RX12) (by decide) rfl rfl (Nat.le_of_ble_eq_true rfl) (lst := [(0, .ref (x_b G + 175)), (1, .int x)]) rfl ?_
  intro p e s m args below meth c C hr hlocks
  refine a_iconst C dX12_glow_0 (v := 0) (by decide) ?_
  refine a_istore_n C dX12_glow_1 (by decide) (lst2 := [(2, .int 0), (0, .ref (x_b G + 175)), (1, .int x)]) rfl ?_
  refine a_iconst C dX12_glow_2 (v := 0) (by decide) ?_
  refine a_istore_n C dX12_glow_3 (by decide) (lst2 := [(3, .int 0), (2, .int 0), (0, .ref (x_b G + 175)), (1, .int x)]) rfl ?_
  have L4 : ∀ (j i : Nat), i ≤ n → n < i + j → Ab G p l e (x_rm 2 0 0) s m args below meth c 4 0 0 (MQ below (x_Q G (some (.int (g_glow (d 176) x n))) d) args s 0 0 (x_A G)) 4 [(3, .int (nI i)), (2, .int (g_glow (d 176) x i)), (0, .ref (x_b G + 175)), (1, .int x)] [] d := by
    intro j
    induction j with
    | zero => intro i h1 h2; exact absurd h2 (by omega)
    | succ j ih =>
      intro i hi hj 
      refine a_iload_n C dX12_glow_4 0 rfl ?_
      refine a_aload_n C dX12_glow_5 2 rfl ?_
      refine a_getR C (k := 175) iX12 x_k175 rfl (j := 0) rfl (by decide) (by decide +kernel) dX12_glow_6 ?_
      refine a_iconst C dX12_glow_9 (v := 0) (by decide) ?_
      refine a_ialdN C (k := 176) x_k176 (i := 0) rfl (by decide) (by first | decide | omega) dX12_glow_10 ?_
      refine a_top (y := (nI n)) hn ?_
      refine a_icmp_ge C dX12_glow_11 (tgt := 57) (by decide) (fun h11 => ?_) (fun h11 => ?_)
      · skip
        have e := x_ge h11 hi (by omega)
        have e9 := e.symm
        subst e9
        refine a_iload_n C dX12_glow_57 1 rfl ?_
        exact a_iret C hlocks hr dX12_glow_58 rfl rfl
      · skip
        have hlt := x_nge h11 hi
        refine a_iload_n C dX12_glow_14 1 rfl ?_
        refine a_aload_n C dX12_glow_15 2 rfl ?_
        refine a_getR C (k := 175) iX12 x_k175 rfl (j := 0) rfl (by decide) (by decide +kernel) dX12_glow_16 ?_
        refine a_bipush C dX12_glow_19 (v := 6) (by decide) ?_
        refine a_iload_n C dX12_glow_21 0 rfl ?_
        refine a_iadd C dX12_glow_22 ?_
        refine a_ialdN C (k := 176) x_k176 (i := 6 + i) (x_add2 (a := 6) (b := i) rfl rfl) (by omega) (by first | decide | omega) dX12_glow_23 ?_
        refine a_iload_n C dX12_glow_24 3 rfl ?_
        refine a_icmp_ne C dX12_glow_25 (tgt := 48) (by decide) (fun h25 => ?_) (fun h25 => ?_)
        · skip
          refine a_iconst C dX12_glow_48 (v := 0) (by decide) ?_
          refine a_iadd C dX12_glow_49 ?_
          refine a_istore_n C dX12_glow_50 (by decide) (lst2 := [(2, .int ((g_glow (d 176) x i) + 0)), (3, .int (nI i)), (0, .ref (x_b G + 175)), (1, .int x)]) rfl ?_
          refine a_iinc C dX12_glow_51 1 rfl (v := (nI (i + 1))) (x_inc i) (by decide) (lst2 := [(3, .int (nI (i + 1))), (2, .int ((g_glow (d 176) x i) + 0)), (0, .ref (x_b G + 175)), (1, .int x)]) rfl ?_
          refine a_goto C dX12_glow_54 (tgt := 4) (by decide) ?_
          refine a_sub (lst2 := [(3, .int (nI (i + 1))), (2, .int ((g_glow (d 176) x i) + 0)), (0, .ref (x_b G + 175)), (1, .int x)]) [0, 1, 2, 3] rfl ?_
          refine a_to (lst2 := [(3, .int (nI ((i + 1)))), (2, .int (g_glow (d 176) x ((i + 1)))), (0, .ref (x_b G + 175)), (1, .int x)]) (st2 := []) (d2 := d) (by rw [g_glow, if_neg (fun z => h25 z.1)]) rfl rfl ?_
          exact ih (i + 1) (by omega) (by omega) 
        · skip
          refine a_aload_n C dX12_glow_28 2 rfl ?_
          refine a_iload_n C dX12_glow_29 0 rfl ?_
          refine a_callV C (k := 175) (As := [.int (nI i)]) (rest := [.int (g_glow (d 176) x i)]) (c_M_burns l G d i (by omega)) (cwV 1 C.1.2.2.2.2 gX12_glow_X12_burns rfl rfl rfl (by decide +kernel) ⟨Nat.le_of_ble_eq_true rfl, Nat.le_of_ble_eq_true rfl⟩) x_k175 (q := (RX12, TX12, 16)) rfl rfl rfl rfl (Nat.le_of_ble_eq_true rfl) dX12_glow_30 ⟨Nat.le_of_ble_eq_true rfl, Nat.le_of_ble_eq_true rfl⟩ ?_
          refine a_if_eq C dX12_glow_33 (tgt := 48) (by decide) (fun h33 => ?_) (fun h33 => ?_)
          · skip
            refine a_iconst C dX12_glow_48 (v := 0) (by decide) ?_
            refine a_iadd C dX12_glow_49 ?_
            refine a_istore_n C dX12_glow_50 (by decide) (lst2 := [(2, .int ((g_glow (d 176) x i) + 0)), (3, .int (nI i)), (0, .ref (x_b G + 175)), (1, .int x)]) rfl ?_
            refine a_iinc C dX12_glow_51 1 rfl (v := (nI (i + 1))) (x_inc i) (by decide) (lst2 := [(3, .int (nI (i + 1))), (2, .int ((g_glow (d 176) x i) + 0)), (0, .ref (x_b G + 175)), (1, .int x)]) rfl ?_
            refine a_goto C dX12_glow_54 (tgt := 4) (by decide) ?_
            refine a_sub (lst2 := [(3, .int (nI (i + 1))), (2, .int ((g_glow (d 176) x i) + 0)), (0, .ref (x_b G + 175)), (1, .int x)]) [0, 1, 2, 3] rfl ?_
            refine a_to (lst2 := [(3, .int (nI ((i + 1)))), (2, .int (g_glow (d 176) x ((i + 1)))), (0, .ref (x_b G + 175)), (1, .int x)]) (st2 := []) (d2 := d) (by rw [g_glow, if_neg (fun z => x_bi_z h33 z.2)]) rfl rfl ?_
            exact ih (i + 1) (by omega) (by omega) 
          · skip
            refine a_aload_n C dX12_glow_36 2 rfl ?_
            refine a_getR C (k := 175) iX12 x_k175 rfl (j := 0) rfl (by decide) (by decide +kernel) dX12_glow_37 ?_
            refine a_bipush C dX12_glow_40 (v := 22) (by decide) ?_
            refine a_iload_n C dX12_glow_42 0 rfl ?_
            refine a_iadd C dX12_glow_43 ?_
            refine a_ialdN C (k := 176) x_k176 (i := 22 + i) (x_add2 (a := 22) (b := i) rfl rfl) (by omega) (by first | decide | omega) dX12_glow_44 ?_
            refine a_goto C dX12_glow_45 (tgt := 49) (by decide) ?_
            refine a_iadd C dX12_glow_49 ?_
            refine a_istore_n C dX12_glow_50 (by decide) (lst2 := [(2, .int ((g_glow (d 176) x i) + (d 176 (22 + i)))), (3, .int (nI i)), (0, .ref (x_b G + 175)), (1, .int x)]) rfl ?_
            refine a_iinc C dX12_glow_51 1 rfl (v := (nI (i + 1))) (x_inc i) (by decide) (lst2 := [(3, .int (nI (i + 1))), (2, .int ((g_glow (d 176) x i) + (d 176 (22 + i)))), (0, .ref (x_b G + 175)), (1, .int x)]) rfl ?_
            refine a_goto C dX12_glow_54 (tgt := 4) (by decide) ?_
            refine a_sub (lst2 := [(3, .int (nI (i + 1))), (2, .int ((g_glow (d 176) x i) + (d 176 (22 + i)))), (0, .ref (x_b G + 175)), (1, .int x)]) [0, 1, 2, 3] rfl ?_
            refine a_to (lst2 := [(3, .int (nI ((i + 1)))), (2, .int (g_glow (d 176) x ((i + 1)))), (0, .ref (x_b G + 175)), (1, .int x)]) (st2 := []) (d2 := d) (by rw [g_glow, if_pos ⟨h25, x_bi_nz h33⟩]) rfl rfl ?_
            exact ih (i + 1) (by omega) (by omega) 
  refine a_sub (lst2 := [(3, .int 0), (2, .int 0), (0, .ref (x_b G + 175)), (1, .int x)]) [0, 1, 2, 3] rfl ?_
  exact L4 (n + 1) 0 (by omega) (by omega) 

set_option maxHeartbeats 1000000 in
set_option maxRecDepth 100000 in
theorem c_M_glowOf_1 (l : Launch) (G : xG) (d : xd) (x : Int32) (hx : ¬ (0 ≤ x ∧ x ≤ 3)) : x_M G l yX12_glowOf wsX12_glowOf 3 0 0 [.ref (x_b G + 175), .int x] d (some (.int 0)) (g_th d 1) := by
  refine x_start (cc := cX12_glowOf) (maxL := 2) (ret := (some .int)) (own := RX12) (by decide) rfl rfl (Nat.le_of_ble_eq_true rfl) (lst := [(0, .ref (x_b G + 175)), (1, .int x)]) rfl ?_
  intro p e s m args below meth c C hr hlocks
  refine a_iload_n C dX12_glowOf_0 1 rfl ?_
  refine a_iconst C dX12_glowOf_1 (v := 0) (by decide) ?_
  refine a_iconst C dX12_glowOf_2 (v := 3) (by decide) ?_
  refine a_callS C (As := [.int x, .int 0, .int 3]) (rest := []) (c_M_in_f l G d x 0 3 hx) (va_cwS 3 C.1.2.2.2.2 gX12_glowOf_X12_in rfl rfl rfl (by decide +kernel) ⟨Nat.le_of_ble_eq_true rfl, Nat.le_of_ble_eq_true rfl⟩) rfl rfl (Nat.le_of_ble_eq_true rfl) dX12_glowOf_3 ⟨Nat.le_of_ble_eq_true rfl, Nat.le_of_ble_eq_true rfl⟩ ?_
  refine a_if_eq C dX12_glowOf_6 (tgt := 21) (by decide) (fun _ => ?_) (fun h => absurd h (by decide))
  refine a_aload_n C dX12_glowOf_21 0 rfl ?_
  refine a_iconst C dX12_glowOf_22 (v := 1) (by decide) ?_
  refine a_callV C (k := 175) (As := [.int 1]) (rest := []) (c_M_fails l G d 1) (cwV 1 C.1.2.2.2.2 gX12_glowOf_X12_fails rfl rfl rfl (by decide +kernel) ⟨Nat.le_of_ble_eq_true rfl, Nat.le_of_ble_eq_true rfl⟩) x_k175 (q := (RX12, TX12, 16)) rfl rfl rfl rfl (Nat.le_of_ble_eq_true rfl) dX12_glowOf_23 ⟨Nat.le_of_ble_eq_true rfl, Nat.le_of_ble_eq_true rfl⟩ ?_
  exact a_iret C hlocks hr dX12_glowOf_26 rfl rfl

set_option maxHeartbeats 1000000 in
set_option maxRecDepth 100000 in
theorem c_M_glowOf (l : Launch) (G : xG) (d : xd) (x : Int32) (hx : 0 ≤ x ∧ x ≤ 3) (n : Nat) (hn : d 176 0 = nI n) (h8 : n ≤ 8) : x_M G l yX12_glowOf wsX12_glowOf 3 0 0 [.ref (x_b G + 175), .int x] d (some (.int (g_glow (d 176) x n))) (g_th d 0) := by
  refine x_start (cc := cX12_glowOf) (maxL := 2) (ret := (some .int)) (own := RX12) (by decide) rfl rfl (Nat.le_of_ble_eq_true rfl) (lst := [(0, .ref (x_b G + 175)), (1, .int x)]) rfl ?_
  intro p e s m args below meth c C hr hlocks
  refine a_iload_n C dX12_glowOf_0 1 rfl ?_
  refine a_iconst C dX12_glowOf_1 (v := 0) (by decide) ?_
  refine a_iconst C dX12_glowOf_2 (v := 3) (by decide) ?_
  refine a_callS C (As := [.int x, .int 0, .int 3]) (rest := []) (c_M_in_t l G d x 0 3 hx) (va_cwS 3 C.1.2.2.2.2 gX12_glowOf_X12_in rfl rfl rfl (by decide +kernel) ⟨Nat.le_of_ble_eq_true rfl, Nat.le_of_ble_eq_true rfl⟩) rfl rfl (Nat.le_of_ble_eq_true rfl) dX12_glowOf_3 ⟨Nat.le_of_ble_eq_true rfl, Nat.le_of_ble_eq_true rfl⟩ ?_
  refine a_if_eq C dX12_glowOf_6 (tgt := 21) (by decide) (fun h => absurd h (by decide)) (fun _ => ?_)
  refine a_aload_n C dX12_glowOf_9 0 rfl ?_
  refine a_aload_n C dX12_glowOf_10 0 rfl ?_
  refine a_iload_n C dX12_glowOf_11 1 rfl ?_
  refine a_callV C (k := 175) (As := [.int x]) (rest := [.ref (x_b G + 175)]) (c_M_glow l G d x n hn h8) (cwV 1 C.1.2.2.2.2 gX12_glowOf_X12_glow rfl rfl rfl (by decide +kernel) ⟨Nat.le_of_ble_eq_true rfl, Nat.le_of_ble_eq_true rfl⟩) x_k175 (q := (RX12, TX12, 16)) rfl rfl rfl rfl (Nat.le_of_ble_eq_true rfl) dX12_glowOf_12 ⟨Nat.le_of_ble_eq_true rfl, Nat.le_of_ble_eq_true rfl⟩ ?_
  refine a_callV C (k := 175) (As := [.int (g_glow (d 176) x n)]) (rest := []) (c_M_done l G d (g_glow (d 176) x n)) (cwV 1 C.1.2.2.2.2 gX12_glowOf_X12_done rfl rfl rfl (by decide +kernel) ⟨Nat.le_of_ble_eq_true rfl, Nat.le_of_ble_eq_true rfl⟩) x_k175 (q := (RX12, TX12, 16)) rfl rfl rfl rfl (Nat.le_of_ble_eq_true rfl) dX12_glowOf_15 ⟨Nat.le_of_ble_eq_true rfl, Nat.le_of_ble_eq_true rfl⟩ ?_
  refine a_goto C dX12_glowOf_18 (tgt := 26) (by decide) ?_
  exact a_iret C hlocks hr dX12_glowOf_26 rfl rfl

set_option maxHeartbeats 1000000 in
set_option maxRecDepth 100000 in
theorem c_M_isDark_1 (l : Launch) (G : xG) (d : xd) (x : Int32) (hx : ¬ (0 ≤ x ∧ x ≤ 3)) : x_M G l yX12_isDark wsX12_isDark 3 0 0 [.ref (x_b G + 175), .int x] d (some (.int 0)) (g_th d 1) := by
  have iX12 : ∀ w ∈ u_ws RX12 TX12 16, w ∈ wsX12_isDark := by decide +kernel
  refine x_start (cc := cX12_isDark) (maxL := 2) (ret := (some .boolean)) (own := RX12) (by decide) rfl rfl (Nat.le_of_ble_eq_true rfl) (lst := [(0, .ref (x_b G + 175)), (1, .int x)]) rfl ?_
  intro p e s m args below meth c C hr hlocks
  refine a_aload_n C dX12_isDark_0 0 rfl ?_
  refine a_iload_n C dX12_isDark_1 1 rfl ?_
  refine a_iconst C dX12_isDark_2 (v := 0) (by decide) ?_
  refine a_iconst C dX12_isDark_3 (v := 3) (by decide) ?_
  refine a_callS C (As := [.int x, .int 0, .int 3]) (rest := [.ref (x_b G + 175)]) (c_M_in_f l G d x 0 3 hx) (va_cwS 3 C.1.2.2.2.2 gX12_isDark_X12_in rfl rfl rfl (by decide +kernel) ⟨Nat.le_of_ble_eq_true rfl, Nat.le_of_ble_eq_true rfl⟩) rfl rfl (Nat.le_of_ble_eq_true rfl) dX12_isDark_4 ⟨Nat.le_of_ble_eq_true rfl, Nat.le_of_ble_eq_true rfl⟩ ?_
  refine a_if_eq C dX12_isDark_7 (tgt := 14) (by decide) (fun _ => ?_) (fun h => absurd h (by decide))
  refine a_iconst C dX12_isDark_14 (v := 1) (by decide) ?_
  refine a_putI C (k := 175) iX12 tyX12_ok nmX12 x_k175 rfl (j := 12) rfl (by decide) (by decide +kernel) rfl (ty := .int) (by decide +kernel) rfl rfl dX12_isDark_15 ?_
  refine a_aload_n C dX12_isDark_18 0 rfl ?_
  refine a_getI C (k := 175) iX12 x_k175 rfl (j := 12) rfl (by decide) (by decide +kernel) dX12_isDark_19 ?_
  refine a_top (y := 1) (by first | rw [x_p_at] | rfl) ?_
  refine a_top (y := 1) rfl ?_
  refine a_if_ne C dX12_isDark_22 (tgt := 37) (by decide) (fun _ => ?_) (fun h => absurd h (by decide))
  refine a_iconst C dX12_isDark_37 (v := 0) (by decide) ?_
  exact a_zret C hlocks hr rfl dX12_isDark_38 rfl rfl

set_option maxHeartbeats 1000000 in
set_option maxRecDepth 100000 in
theorem c_M_isDark (l : Launch) (G : xG) (d : xd) (x : Int32) (hx : 0 ≤ x ∧ x ≤ 3) (n : Nat) (hn : d 176 0 = nI n) (h8 : n ≤ 8) : x_M G l yX12_isDark wsX12_isDark 3 0 0 [.ref (x_b G + 175), .int x] d (some (.int (x_bi (g_glow (d 176) x n = 0)))) (g_th d 0) := by
  have iX12 : ∀ w ∈ u_ws RX12 TX12 16, w ∈ wsX12_isDark := by decide +kernel
  refine x_start (cc := cX12_isDark) (maxL := 2) (ret := (some .boolean)) (own := RX12) (by decide) rfl rfl (Nat.le_of_ble_eq_true rfl) (lst := [(0, .ref (x_b G + 175)), (1, .int x)]) rfl ?_
  intro p e s m args below meth c C hr hlocks
  refine a_aload_n C dX12_isDark_0 0 rfl ?_
  refine a_iload_n C dX12_isDark_1 1 rfl ?_
  refine a_iconst C dX12_isDark_2 (v := 0) (by decide) ?_
  refine a_iconst C dX12_isDark_3 (v := 3) (by decide) ?_
  refine a_callS C (As := [.int x, .int 0, .int 3]) (rest := [.ref (x_b G + 175)]) (c_M_in_t l G d x 0 3 hx) (va_cwS 3 C.1.2.2.2.2 gX12_isDark_X12_in rfl rfl rfl (by decide +kernel) ⟨Nat.le_of_ble_eq_true rfl, Nat.le_of_ble_eq_true rfl⟩) rfl rfl (Nat.le_of_ble_eq_true rfl) dX12_isDark_4 ⟨Nat.le_of_ble_eq_true rfl, Nat.le_of_ble_eq_true rfl⟩ ?_
  refine a_if_eq C dX12_isDark_7 (tgt := 14) (by decide) (fun h => absurd h (by decide)) (fun _ => ?_)
  refine a_iconst C dX12_isDark_10 (v := 0) (by decide) ?_
  refine a_goto C dX12_isDark_11 (tgt := 15) (by decide) ?_
  refine a_putI C (k := 175) iX12 tyX12_ok nmX12 x_k175 rfl (j := 12) rfl (by decide) (by decide +kernel) rfl (ty := .int) (by decide +kernel) rfl rfl dX12_isDark_15 ?_
  refine a_aload_n C dX12_isDark_18 0 rfl ?_
  refine a_getI C (k := 175) iX12 x_k175 rfl (j := 12) rfl (by decide) (by decide +kernel) dX12_isDark_19 ?_
  refine a_top (y := 0) (by first | rw [x_p_at] | rfl) ?_
  refine a_top (y := 0) rfl ?_
  refine a_if_ne C dX12_isDark_22 (tgt := 37) (by decide) (fun h => absurd h (by decide)) (fun _ => ?_)
  refine a_aload_n C dX12_isDark_25 0 rfl ?_
  refine a_iload_n C dX12_isDark_26 1 rfl ?_
  refine a_callV C (k := 175) (As := [.int x]) (rest := []) (c_M_glow l G (x_p d 175 12 0) x n hn h8) (cwV 1 C.1.2.2.2.2 gX12_isDark_X12_glow rfl rfl rfl (by decide +kernel) ⟨Nat.le_of_ble_eq_true rfl, Nat.le_of_ble_eq_true rfl⟩) x_k175 (q := (RX12, TX12, 16)) rfl rfl rfl rfl (Nat.le_of_ble_eq_true rfl) dX12_isDark_27 ⟨Nat.le_of_ble_eq_true rfl, Nat.le_of_ble_eq_true rfl⟩ ?_
  refine a_if_ne C dX12_isDark_30 (tgt := 37) (by decide) (fun h30 => ?_) (fun h30 => ?_)
  · skip
    refine a_iconst C dX12_isDark_37 (v := 0) (by decide) ?_
    exact a_zret C hlocks hr rfl dX12_isDark_38 (x_bi_f h30).symm rfl
  · skip
    refine a_iconst C dX12_isDark_33 (v := 1) (by decide) ?_
    refine a_goto C dX12_isDark_34 (tgt := 38) (by decide) ?_
    exact a_zret C hlocks hr rfl dX12_isDark_38 (x_bi_t h30).symm rfl

/-- the brightest of the streets 0 .. i -/
def g_bs (f : Int32 → Int32) : Nat → Int32
  | 0 => 0
  | i + 1 => if f (g_bs f i) < f (nI (i + 1)) then nI (i + 1) else g_bs f i
set_option maxHeartbeats 1000000 in
set_option maxRecDepth 100000 in
theorem c_M_brightestStreet (l : Launch) (G : xG) (d : xd) (n : Nat) (hn : d 176 0 = nI n) (h8 : n ≤ 8) : x_M G l yX12_brightestStreet wsX12_brightestStreet 3 0 0 [.ref (x_b G + 175)] d (some (.int (g_bs (fun x => g_glow (d 176) x n) 3))) (g_th d 0) := by
  refine x_start (cc := cX12_brightestStreet) (maxL := 3) (ret := (some .int)) (own := RX12) (by decide) rfl rfl (Nat.le_of_ble_eq_true rfl) (lst := [(0, .ref (x_b G + 175))]) rfl ?_
  intro p e s m args below meth c C hr hlocks
  refine a_iconst C dX12_brightestStreet_0 (v := 0) (by decide) ?_
  refine a_istore_n C dX12_brightestStreet_1 (by decide) (lst2 := [(1, .int 0), (0, .ref (x_b G + 175))]) rfl ?_
  refine a_iconst C dX12_brightestStreet_2 (v := 1) (by decide) ?_
  refine a_istore_n C dX12_brightestStreet_3 (by decide) (lst2 := [(2, .int 1), (1, .int 0), (0, .ref (x_b G + 175))]) rfl ?_
  have L4 : ∀ (j i : Nat), i ≤ 3 → 3 < i + j → Ab G p l e (x_rm 3 0 0) s m args below meth c 3 0 0 (MQ below (x_Q G (some (.int (g_bs (fun x => g_glow (d 176) x n) 3))) (g_th d 0)) args s 0 0 (x_A G)) 4 [(2, .int (nI (i + 1))), (1, .int (g_bs (fun x => g_glow (d 176) x n) i)), (0, .ref (x_b G + 175))] [] d := by
    intro j
    induction j with
    | zero => intro i h1 h2; exact absurd h2 (by omega)
    | succ j ih =>
      intro i hi hj 
      refine a_iload_n C dX12_brightestStreet_4 0 rfl ?_
      refine a_iconst C dX12_brightestStreet_5 (v := 4) (by decide) ?_
      refine a_icmp_ge C dX12_brightestStreet_6 (tgt := 34) (by decide) (fun h6 => ?_) (fun h6 => ?_)
      · skip
        have e : i = 3 := by
          have := (nI_leI (a := 4) (b := i + 1) (by omega) (by omega)).mp h6
          omega
        have e9 := e.symm
        subst e9
        refine a_aload_n C dX12_brightestStreet_34 2 rfl ?_
        refine a_iload_n C dX12_brightestStreet_35 1 rfl ?_
        refine a_callV C (k := 175) (As := [.int (g_bs (fun x => g_glow (d 176) x n) 3)]) (rest := []) (c_M_done l G d (g_bs (fun x => g_glow (d 176) x n) 3)) (cwV 1 C.1.2.2.2.2 gX12_brightestStreet_X12_done rfl rfl rfl (by decide +kernel) ⟨Nat.le_of_ble_eq_true rfl, Nat.le_of_ble_eq_true rfl⟩) x_k175 (q := (RX12, TX12, 16)) rfl rfl rfl rfl (Nat.le_of_ble_eq_true rfl) dX12_brightestStreet_36 ⟨Nat.le_of_ble_eq_true rfl, Nat.le_of_ble_eq_true rfl⟩ ?_
        exact a_iret C hlocks hr dX12_brightestStreet_39 rfl rfl
      · skip
        have hlt : i < 3 := by
          rcases Nat.lt_or_ge i 3 with z | z
          · exact z
          · exact absurd ((nI_leI (a := 4) (b := i + 1) (by omega) (by omega)).mpr (by omega)) h6
        refine a_aload_n C dX12_brightestStreet_9 2 rfl ?_
        refine a_iload_n C dX12_brightestStreet_10 0 rfl ?_
        refine a_callV C (k := 175) (As := [.int (nI (i + 1))]) (rest := []) (c_M_glow l G d (nI (i + 1)) n hn h8) (cwV 1 C.1.2.2.2.2 gX12_brightestStreet_X12_glow rfl rfl rfl (by decide +kernel) ⟨Nat.le_of_ble_eq_true rfl, Nat.le_of_ble_eq_true rfl⟩) x_k175 (q := (RX12, TX12, 16)) rfl rfl rfl rfl (Nat.le_of_ble_eq_true rfl) dX12_brightestStreet_11 ⟨Nat.le_of_ble_eq_true rfl, Nat.le_of_ble_eq_true rfl⟩ ?_
        refine a_aload_n C dX12_brightestStreet_14 2 rfl ?_
        refine a_iload_n C dX12_brightestStreet_15 1 rfl ?_
        refine a_callV C (k := 175) (As := [.int (g_bs (fun x => g_glow (d 176) x n) i)]) (rest := [.int (g_glow (d 176) (nI (i + 1)) n)]) (c_M_glow l G d (g_bs (fun x => g_glow (d 176) x n) i) n hn h8) (cwV 1 C.1.2.2.2.2 gX12_brightestStreet_X12_glow rfl rfl rfl (by decide +kernel) ⟨Nat.le_of_ble_eq_true rfl, Nat.le_of_ble_eq_true rfl⟩) x_k175 (q := (RX12, TX12, 16)) rfl rfl rfl rfl (Nat.le_of_ble_eq_true rfl) dX12_brightestStreet_16 ⟨Nat.le_of_ble_eq_true rfl, Nat.le_of_ble_eq_true rfl⟩ ?_
        refine a_icmp_le C dX12_brightestStreet_19 (tgt := 26) (by decide) (fun h19 => ?_) (fun h19 => ?_)
        · skip
          refine a_iload_n C dX12_brightestStreet_26 1 rfl ?_
          refine a_istore_n C dX12_brightestStreet_27 (by decide) (lst2 := [(1, .int (g_bs (fun x => g_glow (d 176) x n) i)), (2, .int (nI (i + 1))), (0, .ref (x_b G + 175))]) rfl ?_
          refine a_iinc C dX12_brightestStreet_28 1 rfl (v := (nI (i + 1 + 1))) (x_inc (i + 1)) (by decide) (lst2 := [(2, .int (nI (i + 1 + 1))), (1, .int (g_bs (fun x => g_glow (d 176) x n) i)), (0, .ref (x_b G + 175))]) rfl ?_
          refine a_goto C dX12_brightestStreet_31 (tgt := 4) (by decide) ?_
          refine a_sub (lst2 := [(2, .int (nI (i + 1 + 1))), (1, .int (g_bs (fun x => g_glow (d 176) x n) i)), (0, .ref (x_b G + 175))]) [0, 1, 2] rfl ?_
          refine a_to (lst2 := [(2, .int (nI (((i + 1)) + 1))), (1, .int (g_bs (fun x => g_glow (d 176) x n) ((i + 1)))), (0, .ref (x_b G + 175))]) (st2 := []) (d2 := d) (by rw [g_bs, if_neg (Int32.not_lt.mpr h19)]) rfl rfl ?_
          exact ih (i + 1) (by omega) (by omega) 
        · skip
          refine a_iload_n C dX12_brightestStreet_22 0 rfl ?_
          refine a_goto C dX12_brightestStreet_23 (tgt := 27) (by decide) ?_
          refine a_istore_n C dX12_brightestStreet_27 (by decide) (lst2 := [(1, .int (nI (i + 1))), (2, .int (nI (i + 1))), (0, .ref (x_b G + 175))]) rfl ?_
          refine a_iinc C dX12_brightestStreet_28 1 rfl (v := (nI (i + 1 + 1))) (x_inc (i + 1)) (by decide) (lst2 := [(2, .int (nI (i + 1 + 1))), (1, .int (nI (i + 1))), (0, .ref (x_b G + 175))]) rfl ?_
          refine a_goto C dX12_brightestStreet_31 (tgt := 4) (by decide) ?_
          refine a_sub (lst2 := [(2, .int (nI (i + 1 + 1))), (1, .int (nI (i + 1))), (0, .ref (x_b G + 175))]) [0, 1, 2] rfl ?_
          refine a_to (lst2 := [(2, .int (nI (((i + 1)) + 1))), (1, .int (g_bs (fun x => g_glow (d 176) x n) ((i + 1)))), (0, .ref (x_b G + 175))]) (st2 := []) (d2 := d) (by rw [g_bs, if_pos (Int32.not_le.mp h19)]) rfl rfl ?_
          exact ih (i + 1) (by omega) (by omega) 
  refine a_sub (lst2 := [(2, .int 1), (1, .int 0), (0, .ref (x_b G + 175))]) [0, 1, 2] rfl ?_
  exact L4 (3 + 1) 0 (by omega) (by omega) 

def g_vot (z : Nat → Int32) (x : Int32) : Nat → Int32
  | 0 => 0
  | i + 1 => g_vot z x i + (if z (22 + i) ≤ x then z (14 + i) else 0)
def g_car (z : Nat → Int32) (n : Nat) (x : Int32) : Bool := decide (f_sum (g_row z 14) n < 2 * g_vot z x n)
def g_cap (z : Nat → Int32) (x : Int32) (k : Nat) : Nat → Int32 := fun j => if 22 ≤ j ∧ j < 22 + k then (if z j < x then z j else x) else z j
theorem g_cap_0 (z : Nat → Int32) (x : Int32) : g_cap z x 0 = z := by
  funext j
  simp only [g_cap]
  rw [if_neg (by omega)]
theorem g_cap_out {z : Nat → Int32} {x : Int32} {k j : Nat} (h : j < 22 ∨ 22 + k ≤ j) : g_cap z x k j = z j := by
  simp only [g_cap]
  rw [if_neg (by omega)]
theorem g_cap_s {z : Nat → Int32} {x : Int32} {k : Nat} : upd (g_cap z x k) (22 + k) (if z (22 + k) < x then z (22 + k) else x) = g_cap z x (k + 1) := by
  funext j
  simp only [upd, g_cap]
  by_cases h : j = 22 + k
  · subst h
    rw [if_pos rfl, if_pos (show 22 ≤ 22 + k ∧ 22 + k < 22 + (k + 1) by omega)]
  · rw [if_neg h]
    by_cases h3 : 22 ≤ j ∧ j < 22 + k
    · rw [if_pos h3, if_pos (show 22 ≤ j ∧ j < 22 + (k + 1) by omega)]
    · rw [if_neg h3, if_neg (show ¬ (22 ≤ j ∧ j < 22 + (k + 1)) by omega)]
set_option maxHeartbeats 1000000 in
set_option maxRecDepth 100000 in
theorem c_M_votes (l : Launch) (G : xG) (d : xd) (x : Int32) (n : Nat) (hn : d 176 0 = nI n) (h8 : n ≤ 8) : x_M G l yX12_votes wsX12_votes 1 0 0 [.ref (x_b G + 175), .int x] d (some (.int (g_vot (d 176) x n))) d := by
  have iX12 : ∀ w ∈ u_ws RX12 TX12 16, w ∈ wsX12_votes := by decide +kernel
  refine x_start (cc := cX12_votes) (maxL := 4) (ret := (some .int)) (own := RX12) (by decide) rfl rfl (Nat.le_of_ble_eq_true rfl) (lst := [(0, .ref (x_b G + 175)), (1, .int x)]) rfl ?_
  intro p e s m args below meth c C hr hlocks
  refine a_iconst C dX12_votes_0 (v := 0) (by decide) ?_
  refine a_istore_n C dX12_votes_1 (by decide) (lst2 := [(2, .int 0), (0, .ref (x_b G + 175)), (1, .int x)]) rfl ?_
  refine a_iconst C dX12_votes_2 (v := 0) (by decide) ?_
  refine a_istore_n C dX12_votes_3 (by decide) (lst2 := [(3, .int 0), (2, .int 0), (0, .ref (x_b G + 175)), (1, .int x)]) rfl ?_
  have L4 : ∀ (j i : Nat), i ≤ n → n < i + j → Ab G p l e (x_rm 1 0 0) s m args below meth c 4 0 0 (MQ below (x_Q G (some (.int (g_vot (d 176) x n))) d) args s 0 0 (x_A G)) 4 [(3, .int (nI i)), (2, .int (g_vot (d 176) x i)), (0, .ref (x_b G + 175)), (1, .int x)] [] d := by
    intro j
    induction j with
    | zero => intro i h1 h2; exact absurd h2 (by omega)
    | succ j ih =>
      intro i hi hj 
      refine a_iload_n C dX12_votes_4 0 rfl ?_
      refine a_aload_n C dX12_votes_5 2 rfl ?_
      refine a_getR C (k := 175) iX12 x_k175 rfl (j := 0) rfl (by decide) (by decide +kernel) dX12_votes_6 ?_
      refine a_iconst C dX12_votes_9 (v := 0) (by decide) ?_
      refine a_ialdN C (k := 176) x_k176 (i := 0) rfl (by decide) (by first | decide | omega) dX12_votes_10 ?_
      refine a_top (y := (nI n)) hn ?_
      refine a_icmp_ge C dX12_votes_11 (tgt := 49) (by decide) (fun h11 => ?_) (fun h11 => ?_)
      · skip
        have e := x_ge h11 hi (by omega)
        have e9 := e.symm
        subst e9
        refine a_iload_n C dX12_votes_49 1 rfl ?_
        exact a_iret C hlocks hr dX12_votes_50 rfl rfl
      · skip
        have hlt := x_nge h11 hi
        refine a_iload_n C dX12_votes_14 1 rfl ?_
        refine a_aload_n C dX12_votes_15 2 rfl ?_
        refine a_getR C (k := 175) iX12 x_k175 rfl (j := 0) rfl (by decide) (by decide +kernel) dX12_votes_16 ?_
        refine a_bipush C dX12_votes_19 (v := 22) (by decide) ?_
        refine a_iload_n C dX12_votes_21 0 rfl ?_
        refine a_iadd C dX12_votes_22 ?_
        refine a_ialdN C (k := 176) x_k176 (i := 22 + i) (x_add2 (a := 22) (b := i) rfl rfl) (by omega) (by first | decide | omega) dX12_votes_23 ?_
        refine a_iload_n C dX12_votes_24 3 rfl ?_
        refine a_icmp_gt C dX12_votes_25 (tgt := 40) (by decide) (fun h25 => ?_) (fun h25 => ?_)
        · skip
          refine a_iconst C dX12_votes_40 (v := 0) (by decide) ?_
          refine a_iadd C dX12_votes_41 ?_
          refine a_istore_n C dX12_votes_42 (by decide) (lst2 := [(2, .int ((g_vot (d 176) x i) + 0)), (3, .int (nI i)), (0, .ref (x_b G + 175)), (1, .int x)]) rfl ?_
          refine a_iinc C dX12_votes_43 1 rfl (v := (nI (i + 1))) (x_inc i) (by decide) (lst2 := [(3, .int (nI (i + 1))), (2, .int ((g_vot (d 176) x i) + 0)), (0, .ref (x_b G + 175)), (1, .int x)]) rfl ?_
          refine a_goto C dX12_votes_46 (tgt := 4) (by decide) ?_
          refine a_sub (lst2 := [(3, .int (nI (i + 1))), (2, .int ((g_vot (d 176) x i) + 0)), (0, .ref (x_b G + 175)), (1, .int x)]) [0, 1, 2, 3] rfl ?_
          refine a_to (lst2 := [(3, .int (nI ((i + 1)))), (2, .int (g_vot (d 176) x ((i + 1)))), (0, .ref (x_b G + 175)), (1, .int x)]) (st2 := []) (d2 := d) (by rw [g_vot, if_neg (Int32.not_le.mpr h25)]) rfl rfl ?_
          exact ih (i + 1) (by omega) (by omega) 
        · skip
          refine a_aload_n C dX12_votes_28 2 rfl ?_
          refine a_getR C (k := 175) iX12 x_k175 rfl (j := 0) rfl (by decide) (by decide +kernel) dX12_votes_29 ?_
          refine a_bipush C dX12_votes_32 (v := 14) (by decide) ?_
          refine a_iload_n C dX12_votes_34 0 rfl ?_
          refine a_iadd C dX12_votes_35 ?_
          refine a_ialdN C (k := 176) x_k176 (i := 14 + i) (x_add2 (a := 14) (b := i) rfl rfl) (by omega) (by first | decide | omega) dX12_votes_36 ?_
          refine a_goto C dX12_votes_37 (tgt := 41) (by decide) ?_
          refine a_iadd C dX12_votes_41 ?_
          refine a_istore_n C dX12_votes_42 (by decide) (lst2 := [(2, .int ((g_vot (d 176) x i) + (d 176 (14 + i)))), (3, .int (nI i)), (0, .ref (x_b G + 175)), (1, .int x)]) rfl ?_
          refine a_iinc C dX12_votes_43 1 rfl (v := (nI (i + 1))) (x_inc i) (by decide) (lst2 := [(3, .int (nI (i + 1))), (2, .int ((g_vot (d 176) x i) + (d 176 (14 + i)))), (0, .ref (x_b G + 175)), (1, .int x)]) rfl ?_
          refine a_goto C dX12_votes_46 (tgt := 4) (by decide) ?_
          refine a_sub (lst2 := [(3, .int (nI (i + 1))), (2, .int ((g_vot (d 176) x i) + (d 176 (14 + i)))), (0, .ref (x_b G + 175)), (1, .int x)]) [0, 1, 2, 3] rfl ?_
          refine a_to (lst2 := [(3, .int (nI ((i + 1)))), (2, .int (g_vot (d 176) x ((i + 1)))), (0, .ref (x_b G + 175)), (1, .int x)]) (st2 := []) (d2 := d) (by rw [g_vot, if_pos (Int32.not_lt.mp h25)]) rfl rfl ?_
          exact ih (i + 1) (by omega) (by omega) 
  refine a_sub (lst2 := [(3, .int 0), (2, .int 0), (0, .ref (x_b G + 175)), (1, .int x)]) [0, 1, 2, 3] rfl ?_
  exact L4 (n + 1) 0 (by omega) (by omega) 

set_option maxHeartbeats 1000000 in
set_option maxRecDepth 100000 in
theorem c_M_isCarried (l : Launch) (G : xG) (d : xd) (x : Int32) (n : Nat) (hn : d 176 0 = nI n) (h8 : n ≤ 8) : x_M G l yX12_isCarried wsX12_isCarried 3 0 0 [.ref (x_b G + 175), .int x] d (some (.int (x_bi (g_car (d 176) n x = true)))) d := by
  refine x_start (cc := cX12_isCarried) (maxL := 2) (ret := (some .boolean)) (own := RX12) (by decide) rfl rfl (Nat.le_of_ble_eq_true rfl) (lst := [(0, .ref (x_b G + 175)), (1, .int x)]) rfl ?_
  intro p e s m args below meth c C hr hlocks
  refine a_iconst C dX12_isCarried_0 (v := 2) (by decide) ?_
  refine a_aload_n C dX12_isCarried_1 0 rfl ?_
  refine a_iload_n C dX12_isCarried_2 1 rfl ?_
  refine a_callV C (k := 175) (As := [.int x]) (rest := [.int 2]) (c_M_votes l G d x n hn h8) (cwV 1 C.1.2.2.2.2 gX12_isCarried_X12_votes rfl rfl rfl (by decide +kernel) ⟨Nat.le_of_ble_eq_true rfl, Nat.le_of_ble_eq_true rfl⟩) x_k175 (q := (RX12, TX12, 16)) rfl rfl rfl rfl (Nat.le_of_ble_eq_true rfl) dX12_isCarried_3 ⟨Nat.le_of_ble_eq_true rfl, Nat.le_of_ble_eq_true rfl⟩ ?_
  refine a_imul C dX12_isCarried_6 ?_
  refine a_aload_n C dX12_isCarried_7 0 rfl ?_
  refine a_callV C (k := 175) (As := []) (rest := [.int (2 * (g_vot (d 176) x n))]) (c_M_allShares l G d n hn h8) (cwV 0 C.1.2.2.2.2 gX12_isCarried_X12_allShares rfl rfl rfl (by decide +kernel) ⟨Nat.le_of_ble_eq_true rfl, Nat.le_of_ble_eq_true rfl⟩) x_k175 (q := (RX12, TX12, 16)) rfl rfl rfl rfl (Nat.le_of_ble_eq_true rfl) dX12_isCarried_8 ⟨Nat.le_of_ble_eq_true rfl, Nat.le_of_ble_eq_true rfl⟩ ?_
  refine a_icmp_le C dX12_isCarried_11 (tgt := 18) (by decide) (fun h11 => ?_) (fun h11 => ?_)
  · skip
    refine a_iconst C dX12_isCarried_18 (v := 0) (by decide) ?_
    exact a_zret C hlocks hr rfl dX12_isCarried_19 (x_bi_f (fun h => absurd (of_decide_eq_true h) (Int32.not_lt.mpr h11))).symm rfl
  · skip
    refine a_iconst C dX12_isCarried_14 (v := 1) (by decide) ?_
    refine a_goto C dX12_isCarried_15 (tgt := 19) (by decide) ?_
    exact a_zret C hlocks hr rfl dX12_isCarried_19 (x_bi_t (decide_eq_true (Int32.not_le.mp h11))).symm rfl

set_option maxHeartbeats 1000000 in
set_option maxRecDepth 100000 in
theorem c_M_proposes_1 (l : Launch) (G : xG) (d : xd) (x : Int32) (hx : ¬ (1 ≤ x ∧ x ≤ 5)) : x_M G l yX12_proposes wsX12_proposes 4 0 0 [.ref (x_b G + 175), .int x] d (some (.int 0)) (g_th d 1) := by
  refine x_start (cc := cX12_proposes) (maxL := 3) (ret := (some .int)) (own := RX12) (by decide) rfl rfl (Nat.le_of_ble_eq_true rfl) (lst := [(0, .ref (x_b G + 175)), (1, .int x)]) rfl ?_
  intro p e s m args below meth c C hr hlocks
  refine a_iload_n C dX12_proposes_0 1 rfl ?_
  refine a_iconst C dX12_proposes_1 (v := 1) (by decide) ?_
  refine a_iconst C dX12_proposes_2 (v := 5) (by decide) ?_
  refine a_callS C (As := [.int x, .int 1, .int 5]) (rest := []) (c_M_in_f l G d x 1 5 hx) (va_cwS 3 C.1.2.2.2.2 gX12_proposes_X12_in rfl rfl rfl (by decide +kernel) ⟨Nat.le_of_ble_eq_true rfl, Nat.le_of_ble_eq_true rfl⟩) rfl rfl (Nat.le_of_ble_eq_true rfl) dX12_proposes_3 ⟨Nat.le_of_ble_eq_true rfl, Nat.le_of_ble_eq_true rfl⟩ ?_
  refine a_if_ne C dX12_proposes_6 (tgt := 15) (by decide) (fun h => absurd h (by decide)) (fun _ => ?_)
  refine a_aload_n C dX12_proposes_9 0 rfl ?_
  refine a_iconst C dX12_proposes_10 (v := 1) (by decide) ?_
  refine a_callV C (k := 175) (As := [.int 1]) (rest := []) (c_M_fails l G d 1) (cwV 1 C.1.2.2.2.2 gX12_proposes_X12_fails rfl rfl rfl (by decide +kernel) ⟨Nat.le_of_ble_eq_true rfl, Nat.le_of_ble_eq_true rfl⟩) x_k175 (q := (RX12, TX12, 16)) rfl rfl rfl rfl (Nat.le_of_ble_eq_true rfl) dX12_proposes_11 ⟨Nat.le_of_ble_eq_true rfl, Nat.le_of_ble_eq_true rfl⟩ ?_
  exact a_iret C hlocks hr dX12_proposes_14 rfl rfl

set_option maxHeartbeats 1000000 in
set_option maxRecDepth 100000 in
theorem c_M_proposes_2 (l : Launch) (G : xG) (d : xd) (x : Int32) (hx : 1 ≤ x ∧ x ≤ 5) (hn : d 176 0 = 0) : x_M G l yX12_proposes wsX12_proposes 4 0 0 [.ref (x_b G + 175), .int x] d (some (.int 0)) (g_th d 2) := by
  have iX12 : ∀ w ∈ u_ws RX12 TX12 16, w ∈ wsX12_proposes := by decide +kernel
  refine x_start (cc := cX12_proposes) (maxL := 3) (ret := (some .int)) (own := RX12) (by decide) rfl rfl (Nat.le_of_ble_eq_true rfl) (lst := [(0, .ref (x_b G + 175)), (1, .int x)]) rfl ?_
  intro p e s m args below meth c C hr hlocks
  refine a_iload_n C dX12_proposes_0 1 rfl ?_
  refine a_iconst C dX12_proposes_1 (v := 1) (by decide) ?_
  refine a_iconst C dX12_proposes_2 (v := 5) (by decide) ?_
  refine a_callS C (As := [.int x, .int 1, .int 5]) (rest := []) (c_M_in_t l G d x 1 5 hx) (va_cwS 3 C.1.2.2.2.2 gX12_proposes_X12_in rfl rfl rfl (by decide +kernel) ⟨Nat.le_of_ble_eq_true rfl, Nat.le_of_ble_eq_true rfl⟩) rfl rfl (Nat.le_of_ble_eq_true rfl) dX12_proposes_3 ⟨Nat.le_of_ble_eq_true rfl, Nat.le_of_ble_eq_true rfl⟩ ?_
  refine a_if_ne C dX12_proposes_6 (tgt := 15) (by decide) (fun _ => ?_) (fun h => absurd h (by decide))
  refine a_aload_n C dX12_proposes_15 0 rfl ?_
  refine a_getR C (k := 175) iX12 x_k175 rfl (j := 0) rfl (by decide) (by decide +kernel) dX12_proposes_16 ?_
  refine a_iconst C dX12_proposes_19 (v := 0) (by decide) ?_
  refine a_ialdN C (k := 176) x_k176 (i := 0) rfl (by decide) (by first | decide | omega) dX12_proposes_20 ?_
  refine a_top (y := 0) hn ?_
  refine a_if_ne C dX12_proposes_21 (tgt := 30) (by decide) (fun h => absurd h (by decide)) (fun _ => ?_)
  refine a_aload_n C dX12_proposes_24 0 rfl ?_
  refine a_iconst C dX12_proposes_25 (v := 2) (by decide) ?_
  refine a_callV C (k := 175) (As := [.int 2]) (rest := []) (c_M_fails l G d 2) (cwV 1 C.1.2.2.2.2 gX12_proposes_X12_fails rfl rfl rfl (by decide +kernel) ⟨Nat.le_of_ble_eq_true rfl, Nat.le_of_ble_eq_true rfl⟩) x_k175 (q := (RX12, TX12, 16)) rfl rfl rfl rfl (Nat.le_of_ble_eq_true rfl) dX12_proposes_26 ⟨Nat.le_of_ble_eq_true rfl, Nat.le_of_ble_eq_true rfl⟩ ?_
  exact a_iret C hlocks hr dX12_proposes_29 rfl rfl

set_option maxHeartbeats 1000000 in
set_option maxRecDepth 100000 in
theorem c_M_proposes_n (l : Launch) (G : xG) (d : xd) (x : Int32) (hx : 1 ≤ x ∧ x ≤ 5) (n : Nat) (hn : d 176 0 = nI n) (h8 : n ≤ 8) (h1 : 1 ≤ n) (hc : ¬ g_car (d 176) n x = true) : x_M G l yX12_proposes wsX12_proposes 4 0 0 [.ref (x_b G + 175), .int x] d (some (.int 0)) (g_th d 0) := by
  have iX12 : ∀ w ∈ u_ws RX12 TX12 16, w ∈ wsX12_proposes := by decide +kernel
  refine x_start (cc := cX12_proposes) (maxL := 3) (ret := (some .int)) (own := RX12) (by decide) rfl rfl (Nat.le_of_ble_eq_true rfl) (lst := [(0, .ref (x_b G + 175)), (1, .int x)]) rfl ?_
  intro p e s m args below meth c C hr hlocks
  refine a_iload_n C dX12_proposes_0 1 rfl ?_
  refine a_iconst C dX12_proposes_1 (v := 1) (by decide) ?_
  refine a_iconst C dX12_proposes_2 (v := 5) (by decide) ?_
  refine a_callS C (As := [.int x, .int 1, .int 5]) (rest := []) (c_M_in_t l G d x 1 5 hx) (va_cwS 3 C.1.2.2.2.2 gX12_proposes_X12_in rfl rfl rfl (by decide +kernel) ⟨Nat.le_of_ble_eq_true rfl, Nat.le_of_ble_eq_true rfl⟩) rfl rfl (Nat.le_of_ble_eq_true rfl) dX12_proposes_3 ⟨Nat.le_of_ble_eq_true rfl, Nat.le_of_ble_eq_true rfl⟩ ?_
  refine a_if_ne C dX12_proposes_6 (tgt := 15) (by decide) (fun _ => ?_) (fun h => absurd h (by decide))
  refine a_aload_n C dX12_proposes_15 0 rfl ?_
  refine a_getR C (k := 175) iX12 x_k175 rfl (j := 0) rfl (by decide) (by decide +kernel) dX12_proposes_16 ?_
  refine a_iconst C dX12_proposes_19 (v := 0) (by decide) ?_
  refine a_ialdN C (k := 176) x_k176 (i := 0) rfl (by decide) (by first | decide | omega) dX12_proposes_20 ?_
  refine a_top (y := (nI n)) hn ?_
  refine a_if_ne C dX12_proposes_21 (tgt := 30) (by decide) (fun h21 => ?_) (fun h => False.elim (nI_ne0 (by omega) (by omega) h))
  refine a_aload_n C dX12_proposes_30 0 rfl ?_
  refine a_iload_n C dX12_proposes_31 1 rfl ?_
  refine a_callV C (k := 175) (As := [.int x]) (rest := []) (c_M_isCarried l G d x n hn h8) (cwV 1 C.1.2.2.2.2 gX12_proposes_X12_isCarried rfl rfl rfl (by decide +kernel) ⟨Nat.le_of_ble_eq_true rfl, Nat.le_of_ble_eq_true rfl⟩) x_k175 (q := (RX12, TX12, 16)) rfl rfl rfl rfl (Nat.le_of_ble_eq_true rfl) dX12_proposes_32 ⟨Nat.le_of_ble_eq_true rfl, Nat.le_of_ble_eq_true rfl⟩ ?_
  refine a_top (y := 0) (x_bi_f hc) ?_
  refine a_if_ne C dX12_proposes_35 (tgt := 44) (by decide) (fun h => absurd h (by decide)) (fun _ => ?_)
  refine a_aload_n C dX12_proposes_38 0 rfl ?_
  refine a_iconst C dX12_proposes_39 (v := 0) (by decide) ?_
  refine a_callV C (k := 175) (As := [.int 0]) (rest := []) (c_M_done l G d 0) (cwV 1 C.1.2.2.2.2 gX12_proposes_X12_done rfl rfl rfl (by decide +kernel) ⟨Nat.le_of_ble_eq_true rfl, Nat.le_of_ble_eq_true rfl⟩) x_k175 (q := (RX12, TX12, 16)) rfl rfl rfl rfl (Nat.le_of_ble_eq_true rfl) dX12_proposes_40 ⟨Nat.le_of_ble_eq_true rfl, Nat.le_of_ble_eq_true rfl⟩ ?_
  exact a_iret C hlocks hr dX12_proposes_43 rfl rfl

set_option maxHeartbeats 1000000 in
set_option maxRecDepth 100000 in
theorem c_M_proposes (l : Launch) (G : xG) (d : xd) (x : Int32) (hx : 1 ≤ x ∧ x ≤ 5) (n : Nat) (hn : d 176 0 = nI n) (h8 : n ≤ 8) (h1 : 1 ≤ n) (hc : g_car (d 176) n x = true) : x_M G l yX12_proposes wsX12_proposes 4 0 0 [.ref (x_b G + 175), .int x] d (some (.int 1)) (g_ok d (g_cap (d 176) x n)) := by
  have iX12 : ∀ w ∈ u_ws RX12 TX12 16, w ∈ wsX12_proposes := by decide +kernel
  refine x_start (cc := cX12_proposes) (maxL := 3) (ret := (some .int)) (own := RX12) (by decide) rfl rfl (Nat.le_of_ble_eq_true rfl) (lst := [(0, .ref (x_b G + 175)), (1, .int x)]) rfl ?_
  intro p e s m args below meth c C hr hlocks
  refine a_iload_n C dX12_proposes_0 1 rfl ?_
  refine a_iconst C dX12_proposes_1 (v := 1) (by decide) ?_
  refine a_iconst C dX12_proposes_2 (v := 5) (by decide) ?_
  refine a_callS C (As := [.int x, .int 1, .int 5]) (rest := []) (c_M_in_t l G d x 1 5 hx) (va_cwS 3 C.1.2.2.2.2 gX12_proposes_X12_in rfl rfl rfl (by decide +kernel) ⟨Nat.le_of_ble_eq_true rfl, Nat.le_of_ble_eq_true rfl⟩) rfl rfl (Nat.le_of_ble_eq_true rfl) dX12_proposes_3 ⟨Nat.le_of_ble_eq_true rfl, Nat.le_of_ble_eq_true rfl⟩ ?_
  refine a_if_ne C dX12_proposes_6 (tgt := 15) (by decide) (fun _ => ?_) (fun h => absurd h (by decide))
  refine a_aload_n C dX12_proposes_15 0 rfl ?_
  refine a_getR C (k := 175) iX12 x_k175 rfl (j := 0) rfl (by decide) (by decide +kernel) dX12_proposes_16 ?_
  refine a_iconst C dX12_proposes_19 (v := 0) (by decide) ?_
  refine a_ialdN C (k := 176) x_k176 (i := 0) rfl (by decide) (by first | decide | omega) dX12_proposes_20 ?_
  refine a_top (y := (nI n)) hn ?_
  refine a_if_ne C dX12_proposes_21 (tgt := 30) (by decide) (fun h21 => ?_) (fun h => False.elim (nI_ne0 (by omega) (by omega) h))
  refine a_aload_n C dX12_proposes_30 0 rfl ?_
  refine a_iload_n C dX12_proposes_31 1 rfl ?_
  refine a_callV C (k := 175) (As := [.int x]) (rest := []) (c_M_isCarried l G d x n hn h8) (cwV 1 C.1.2.2.2.2 gX12_proposes_X12_isCarried rfl rfl rfl (by decide +kernel) ⟨Nat.le_of_ble_eq_true rfl, Nat.le_of_ble_eq_true rfl⟩) x_k175 (q := (RX12, TX12, 16)) rfl rfl rfl rfl (Nat.le_of_ble_eq_true rfl) dX12_proposes_32 ⟨Nat.le_of_ble_eq_true rfl, Nat.le_of_ble_eq_true rfl⟩ ?_
  refine a_top (y := 1) (x_bi_t hc) ?_
  refine a_if_ne C dX12_proposes_35 (tgt := 44) (by decide) (fun _ => ?_) (fun h => absurd h (by decide))
  refine a_iconst C dX12_proposes_44 (v := 0) (by decide) ?_
  refine a_istore_n C dX12_proposes_45 (by decide) (lst2 := [(2, .int 0), (0, .ref (x_b G + 175)), (1, .int x)]) rfl ?_
  have L46 : ∀ (j k : Nat), k ≤ n → n < k + j → Ab G p l e (x_rm 4 0 0) s m args below meth c 3 0 0 (MQ below (x_Q G (some (.int 1)) (g_ok d (g_cap (d 176) x n))) args s 0 0 (x_A G)) 46 [(2, .int (nI k)), (0, .ref (x_b G + 175)), (1, .int x)] [] (x_r d 176 (g_cap (d 176) x k)) := by
    intro j
    induction j with
    | zero => intro k h1 h2; exact absurd h2 (by omega)
    | succ j ih =>
      intro k hk hj 
      refine a_iload_n C dX12_proposes_46 0 rfl ?_
      refine a_aload_n C dX12_proposes_47 1 rfl ?_
      refine a_getR C (k := 175) iX12 x_k175 rfl (j := 0) rfl (by decide) (by decide +kernel) dX12_proposes_48 ?_
      refine a_iconst C dX12_proposes_51 (v := 0) (by decide) ?_
      refine a_ialdN C (k := 176) x_k176 (i := 0) rfl (by decide) (by first | decide | omega) dX12_proposes_52 ?_
      refine a_top (y := (nI n)) (by rw [x_r_same, g_cap_out (by omega)]; exact hn) ?_
      refine a_icmp_ge C dX12_proposes_53 (tgt := 84) (by decide) (fun h53 => ?_) (fun h53 => ?_)
      · skip
        have e := x_ge h53 hk (by omega)
        have e9 := e.symm
        subst e9
        refine a_aload_n C dX12_proposes_84 1 rfl ?_
        refine a_iconst C dX12_proposes_85 (v := 1) (by decide) ?_
        refine a_callV C (k := 175) (As := [.int 1]) (rest := []) (c_M_done l G (x_r d 176 (g_cap (d 176) x n)) 1) (cwV 1 C.1.2.2.2.2 gX12_proposes_X12_done rfl rfl rfl (by decide +kernel) ⟨Nat.le_of_ble_eq_true rfl, Nat.le_of_ble_eq_true rfl⟩) x_k175 (q := (RX12, TX12, 16)) rfl rfl rfl rfl (Nat.le_of_ble_eq_true rfl) dX12_proposes_86 ⟨Nat.le_of_ble_eq_true rfl, Nat.le_of_ble_eq_true rfl⟩ ?_
        exact a_iret C hlocks hr dX12_proposes_89 rfl rfl
      · skip
        have hlt := x_nge h53 hk
        refine a_aload_n C dX12_proposes_56 1 rfl ?_
        refine a_getR C (k := 175) iX12 x_k175 rfl (j := 0) rfl (by decide) (by decide +kernel) dX12_proposes_57 ?_
        refine a_bipush C dX12_proposes_60 (v := 22) (by decide) ?_
        refine a_iload_n C dX12_proposes_62 0 rfl ?_
        refine a_iadd C dX12_proposes_63 ?_
        refine a_aload_n C dX12_proposes_64 1 rfl ?_
        refine a_getR C (k := 175) iX12 x_k175 rfl (j := 0) rfl (by decide) (by decide +kernel) dX12_proposes_65 ?_
        refine a_bipush C dX12_proposes_68 (v := 22) (by decide) ?_
        refine a_iload_n C dX12_proposes_70 0 rfl ?_
        refine a_iadd C dX12_proposes_71 ?_
        refine a_ialdN C (k := 176) x_k176 (i := 22 + k) (x_add2 (a := 22) (b := k) rfl rfl) (by omega) (by first | decide | omega) dX12_proposes_72 ?_
        refine a_top (y := (d 176 (22 + k))) (by rw [x_r_same, g_cap_out (by omega)]) ?_
        refine a_iload_n C dX12_proposes_73 2 rfl ?_
        refine a_callS C (As := [.int (d 176 (22 + k)), .int x]) (rest := [.int (22 + (nI k)), .ref (x_b G + 176)]) (c_M_least l G (x_r d 176 (g_cap (d 176) x k)) ((d 176 (22 + k))) x) (va_cwS 2 C.1.2.2.2.2 gX12_proposes_X12_least rfl rfl rfl (by decide +kernel) ⟨Nat.le_of_ble_eq_true rfl, Nat.le_of_ble_eq_true rfl⟩) rfl rfl (Nat.le_of_ble_eq_true rfl) dX12_proposes_74 ⟨Nat.le_of_ble_eq_true rfl, Nat.le_of_ble_eq_true rfl⟩ ?_
        refine a_iastN C (k := 176) x_k176 (i := 22 + k) (x_add2 (a := 22) (b := k) rfl rfl) (by omega) (by first | decide | omega) dX12_proposes_77 ?_
        refine a_iinc C dX12_proposes_78 0 rfl (v := (nI (k + 1))) (x_inc k) (by decide) (lst2 := [(2, .int (nI (k + 1))), (0, .ref (x_b G + 175)), (1, .int x)]) rfl ?_
        refine a_goto C dX12_proposes_81 (tgt := 46) (by decide) ?_
        refine a_sub (lst2 := [(2, .int (nI (k + 1))), (0, .ref (x_b G + 175)), (1, .int x)]) [0, 1, 2] rfl ?_
        refine a_to (lst2 := [(2, .int (nI ((k + 1)))), (0, .ref (x_b G + 175)), (1, .int x)]) (st2 := []) (d2 := x_r d 176 (g_cap (d 176) x ((k + 1)))) rfl rfl (x_p_r2 g_cap_s).symm ?_
        exact ih (k + 1) (by omega) (by omega) 
  refine a_sub (lst2 := [(2, .int 0), (0, .ref (x_b G + 175)), (1, .int x)]) [0, 1, 2] rfl ?_
  refine a_toD (d2 := x_r d 176 (g_cap (d 176) x 0)) (by rw [g_cap_0]; exact x_r_id d 176) ?_
  exact L46 (n + 1) 0 (by omega) (by omega)

set_option maxHeartbeats 1000000 in
set_option maxRecDepth 100000 in
theorem c_M_votesFor_1 (l : Launch) (G : xG) (d : xd) (x : Int32) (hx : ¬ (1 ≤ x ∧ x ≤ 5)) : x_M G l yX12_votesFor wsX12_votesFor 2 0 0 [.ref (x_b G + 175), .int x] d (some (.int 0)) (g_th d 1) := by
  refine x_start (cc := cX12_votesFor) (maxL := 2) (ret := (some .int)) (own := RX12) (by decide) rfl rfl (Nat.le_of_ble_eq_true rfl) (lst := [(0, .ref (x_b G + 175)), (1, .int x)]) rfl ?_
  intro p e s m args below meth c C hr hlocks
  refine a_iload_n C dX12_votesFor_0 1 rfl ?_
  refine a_iconst C dX12_votesFor_1 (v := 1) (by decide) ?_
  refine a_iconst C dX12_votesFor_2 (v := 5) (by decide) ?_
  refine a_callS C (As := [.int x, .int 1, .int 5]) (rest := []) (c_M_in_f l G d x 1 5 hx) (va_cwS 3 C.1.2.2.2.2 gX12_votesFor_X12_in rfl rfl rfl (by decide +kernel) ⟨Nat.le_of_ble_eq_true rfl, Nat.le_of_ble_eq_true rfl⟩) rfl rfl (Nat.le_of_ble_eq_true rfl) dX12_votesFor_3 ⟨Nat.le_of_ble_eq_true rfl, Nat.le_of_ble_eq_true rfl⟩ ?_
  refine a_if_eq C dX12_votesFor_6 (tgt := 21) (by decide) (fun _ => ?_) (fun h => absurd h (by decide))
  refine a_aload_n C dX12_votesFor_21 0 rfl ?_
  refine a_iconst C dX12_votesFor_22 (v := 1) (by decide) ?_
  refine a_callV C (k := 175) (As := [.int 1]) (rest := []) (c_M_fails l G d 1) (cwV 1 C.1.2.2.2.2 gX12_votesFor_X12_fails rfl rfl rfl (by decide +kernel) ⟨Nat.le_of_ble_eq_true rfl, Nat.le_of_ble_eq_true rfl⟩) x_k175 (q := (RX12, TX12, 16)) rfl rfl rfl rfl (Nat.le_of_ble_eq_true rfl) dX12_votesFor_23 ⟨Nat.le_of_ble_eq_true rfl, Nat.le_of_ble_eq_true rfl⟩ ?_
  exact a_iret C hlocks hr dX12_votesFor_26 rfl rfl

set_option maxHeartbeats 1000000 in
set_option maxRecDepth 100000 in
theorem c_M_votesFor (l : Launch) (G : xG) (d : xd) (x : Int32) (hx : 1 ≤ x ∧ x ≤ 5) (n : Nat) (hn : d 176 0 = nI n) (h8 : n ≤ 8) : x_M G l yX12_votesFor wsX12_votesFor 2 0 0 [.ref (x_b G + 175), .int x] d (some (.int (g_vot (d 176) x n))) (g_th d 0) := by
  refine x_start (cc := cX12_votesFor) (maxL := 2) (ret := (some .int)) (own := RX12) (by decide) rfl rfl (Nat.le_of_ble_eq_true rfl) (lst := [(0, .ref (x_b G + 175)), (1, .int x)]) rfl ?_
  intro p e s m args below meth c C hr hlocks
  refine a_iload_n C dX12_votesFor_0 1 rfl ?_
  refine a_iconst C dX12_votesFor_1 (v := 1) (by decide) ?_
  refine a_iconst C dX12_votesFor_2 (v := 5) (by decide) ?_
  refine a_callS C (As := [.int x, .int 1, .int 5]) (rest := []) (c_M_in_t l G d x 1 5 hx) (va_cwS 3 C.1.2.2.2.2 gX12_votesFor_X12_in rfl rfl rfl (by decide +kernel) ⟨Nat.le_of_ble_eq_true rfl, Nat.le_of_ble_eq_true rfl⟩) rfl rfl (Nat.le_of_ble_eq_true rfl) dX12_votesFor_3 ⟨Nat.le_of_ble_eq_true rfl, Nat.le_of_ble_eq_true rfl⟩ ?_
  refine a_if_eq C dX12_votesFor_6 (tgt := 21) (by decide) (fun h => absurd h (by decide)) (fun _ => ?_)
  refine a_aload_n C dX12_votesFor_9 0 rfl ?_
  refine a_aload_n C dX12_votesFor_10 0 rfl ?_
  refine a_iload_n C dX12_votesFor_11 1 rfl ?_
  refine a_callV C (k := 175) (As := [.int x]) (rest := [.ref (x_b G + 175)]) (c_M_votes l G d x n hn h8) (cwV 1 C.1.2.2.2.2 gX12_votesFor_X12_votes rfl rfl rfl (by decide +kernel) ⟨Nat.le_of_ble_eq_true rfl, Nat.le_of_ble_eq_true rfl⟩) x_k175 (q := (RX12, TX12, 16)) rfl rfl rfl rfl (Nat.le_of_ble_eq_true rfl) dX12_votesFor_12 ⟨Nat.le_of_ble_eq_true rfl, Nat.le_of_ble_eq_true rfl⟩ ?_
  refine a_callV C (k := 175) (As := [.int (g_vot (d 176) x n)]) (rest := []) (c_M_done l G d (g_vot (d 176) x n)) (cwV 1 C.1.2.2.2.2 gX12_votesFor_X12_done rfl rfl rfl (by decide +kernel) ⟨Nat.le_of_ble_eq_true rfl, Nat.le_of_ble_eq_true rfl⟩) x_k175 (q := (RX12, TX12, 16)) rfl rfl rfl rfl (Nat.le_of_ble_eq_true rfl) dX12_votesFor_15 ⟨Nat.le_of_ble_eq_true rfl, Nat.le_of_ble_eq_true rfl⟩ ?_
  refine a_goto C dX12_votesFor_18 (tgt := 26) (by decide) ?_
  exact a_iret C hlocks hr dX12_votesFor_26 rfl rfl

set_option maxHeartbeats 1000000 in
set_option maxRecDepth 100000 in
theorem c_M_totalShares (l : Launch) (G : xG) (d : xd) (n : Nat) (hn : d 176 0 = nI n) (h8 : n ≤ 8) : x_M G l yX12_totalShares wsX12_totalShares 3 0 0 [.ref (x_b G + 175)] d (some (.int (f_sum (g_row (d 176) 14) n))) (g_th d 0) := by
  refine x_start (cc := cX12_totalShares) (maxL := 1) (ret := (some .int)) (own := RX12) (by decide) rfl rfl (Nat.le_of_ble_eq_true rfl) (lst := [(0, .ref (x_b G + 175))]) rfl ?_
  intro p e s m args below meth c C hr hlocks
  refine a_aload_n C dX12_totalShares_0 0 rfl ?_
  refine a_aload_n C dX12_totalShares_1 0 rfl ?_
  refine a_callV C (k := 175) (As := []) (rest := [.ref (x_b G + 175)]) (c_M_allShares l G d n hn h8) (cwV 0 C.1.2.2.2.2 gX12_totalShares_X12_allShares rfl rfl rfl (by decide +kernel) ⟨Nat.le_of_ble_eq_true rfl, Nat.le_of_ble_eq_true rfl⟩) x_k175 (q := (RX12, TX12, 16)) rfl rfl rfl rfl (Nat.le_of_ble_eq_true rfl) dX12_totalShares_2 ⟨Nat.le_of_ble_eq_true rfl, Nat.le_of_ble_eq_true rfl⟩ ?_
  refine a_callV C (k := 175) (As := [.int (f_sum (g_row (d 176) 14) n)]) (rest := []) (c_M_done l G d (f_sum (g_row (d 176) 14) n)) (cwV 1 C.1.2.2.2.2 gX12_totalShares_X12_done rfl rfl rfl (by decide +kernel) ⟨Nat.le_of_ble_eq_true rfl, Nat.le_of_ble_eq_true rfl⟩) x_k175 (q := (RX12, TX12, 16)) rfl rfl rfl rfl (Nat.le_of_ble_eq_true rfl) dX12_totalShares_5 ⟨Nat.le_of_ble_eq_true rfl, Nat.le_of_ble_eq_true rfl⟩ ?_
  exact a_iret C hlocks hr dX12_totalShares_8 rfl rfl

set_option maxHeartbeats 1000000 in
set_option maxRecDepth 100000 in
theorem c_M_lowestCap_1 (l : Launch) (G : xG) (d : xd) (hn : d 176 0 = 0) : x_M G l yX12_lowestCap wsX12_lowestCap 4 0 0 [.ref (x_b G + 175)] d (some (.int 0)) (g_th d 1) := by
  have iX12 : ∀ w ∈ u_ws RX12 TX12 16, w ∈ wsX12_lowestCap := by decide +kernel
  refine x_start (cc := cX12_lowestCap) (maxL := 2) (ret := (some .int)) (own := RX12) (by decide) rfl rfl (Nat.le_of_ble_eq_true rfl) (lst := [(0, .ref (x_b G + 175))]) rfl ?_
  intro p e s m args below meth c C hr hlocks
  refine a_aload_n C dX12_lowestCap_0 0 rfl ?_
  refine a_getR C (k := 175) iX12 x_k175 rfl (j := 0) rfl (by decide) (by decide +kernel) dX12_lowestCap_1 ?_
  refine a_iconst C dX12_lowestCap_4 (v := 0) (by decide) ?_
  refine a_ialdN C (k := 176) x_k176 (i := 0) rfl (by decide) (by first | decide | omega) dX12_lowestCap_5 ?_
  refine a_top (y := 0) hn ?_
  refine a_if_ne C dX12_lowestCap_6 (tgt := 15) (by decide) (fun h => absurd h (by decide)) (fun _ => ?_)
  refine a_aload_n C dX12_lowestCap_9 0 rfl ?_
  refine a_iconst C dX12_lowestCap_10 (v := 1) (by decide) ?_
  refine a_callV C (k := 175) (As := [.int 1]) (rest := []) (c_M_fails l G d 1) (cwV 1 C.1.2.2.2.2 gX12_lowestCap_X12_fails rfl rfl rfl (by decide +kernel) ⟨Nat.le_of_ble_eq_true rfl, Nat.le_of_ble_eq_true rfl⟩) x_k175 (q := (RX12, TX12, 16)) rfl rfl rfl rfl (Nat.le_of_ble_eq_true rfl) dX12_lowestCap_11 ⟨Nat.le_of_ble_eq_true rfl, Nat.le_of_ble_eq_true rfl⟩ ?_
  exact a_iret C hlocks hr dX12_lowestCap_14 rfl rfl

set_option maxHeartbeats 1000000 in
set_option maxRecDepth 100000 in
theorem c_M_lowestCap (l : Launch) (G : xG) (d : xd) (k : Nat) (hk : k < 100) (n : Nat) (hn : d 176 0 = nI n) (h8 : n ≤ 8) (h1 : 1 ≤ n) (hk1 : g_car (d 176) n (nI (k + 1)) = true) (hk0 : ∀ j, j < k → ¬ g_car (d 176) n (nI (j + 1)) = true) : x_M G l yX12_lowestCap wsX12_lowestCap 4 0 0 [.ref (x_b G + 175)] d (some (.int (nI (k + 1)))) (g_th d 0) := by
  have iX12 : ∀ w ∈ u_ws RX12 TX12 16, w ∈ wsX12_lowestCap := by decide +kernel
  refine x_start (cc := cX12_lowestCap) (maxL := 2) (ret := (some .int)) (own := RX12) (by decide) rfl rfl (Nat.le_of_ble_eq_true rfl) (lst := [(0, .ref (x_b G + 175))]) rfl ?_
  intro p e s m args below meth c C hr hlocks
  refine a_aload_n C dX12_lowestCap_0 0 rfl ?_
  refine a_getR C (k := 175) iX12 x_k175 rfl (j := 0) rfl (by decide) (by decide +kernel) dX12_lowestCap_1 ?_
  refine a_iconst C dX12_lowestCap_4 (v := 0) (by decide) ?_
  refine a_ialdN C (k := 176) x_k176 (i := 0) rfl (by decide) (by first | decide | omega) dX12_lowestCap_5 ?_
  refine a_top (y := (nI n)) hn ?_
  refine a_if_ne C dX12_lowestCap_6 (tgt := 15) (by decide) (fun h6 => ?_) (fun h => False.elim (nI_ne0 (by omega) (by omega) h))
  refine a_iconst C dX12_lowestCap_15 (v := 1) (by decide) ?_
  refine a_istore_n C dX12_lowestCap_16 (by decide) (lst2 := [(1, .int 1), (0, .ref (x_b G + 175))]) rfl ?_
  have L17 : ∀ (j i : Nat), i ≤ k → k < i + j → Ab G p l e (x_rm 4 0 0) s m args below meth c 2 0 0 (MQ below (x_Q G (some (.int (nI (k + 1)))) (g_th d 0)) args s 0 0 (x_A G)) 17 [(1, .int (nI (i + 1))), (0, .ref (x_b G + 175))] [] d := by
    intro j
    induction j with
    | zero => intro i h1 h2; exact absurd h2 (by omega)
    | succ j ih =>
      intro i hi hj 
      refine a_aload_n C dX12_lowestCap_17 1 rfl ?_
      refine a_iload_n C dX12_lowestCap_18 0 rfl ?_
      refine a_callV C (k := 175) (As := [.int (nI (i + 1))]) (rest := []) (c_M_isCarried l G d (nI (i + 1)) n hn h8) (cwV 1 C.1.2.2.2.2 gX12_lowestCap_X12_isCarried rfl rfl rfl (by decide +kernel) ⟨Nat.le_of_ble_eq_true rfl, Nat.le_of_ble_eq_true rfl⟩) x_k175 (q := (RX12, TX12, 16)) rfl rfl rfl rfl (Nat.le_of_ble_eq_true rfl) dX12_lowestCap_19 ⟨Nat.le_of_ble_eq_true rfl, Nat.le_of_ble_eq_true rfl⟩ ?_
      refine a_if_ne C dX12_lowestCap_22 (tgt := 31) (by decide) (fun h22 => ?_) (fun h22 => ?_)
      · skip
        have e : i = k := by
          rcases Nat.lt_or_ge i k with z | z
          · exact absurd (x_bi_nz h22) (hk0 i z)
          · omega
        subst e
        refine a_aload_n C dX12_lowestCap_31 1 rfl ?_
        refine a_iload_n C dX12_lowestCap_32 0 rfl ?_
        refine a_callV C (k := 175) (As := [.int (nI (i + 1))]) (rest := []) (c_M_done l G d (nI (i + 1))) (cwV 1 C.1.2.2.2.2 gX12_lowestCap_X12_done rfl rfl rfl (by decide +kernel) ⟨Nat.le_of_ble_eq_true rfl, Nat.le_of_ble_eq_true rfl⟩) x_k175 (q := (RX12, TX12, 16)) rfl rfl rfl rfl (Nat.le_of_ble_eq_true rfl) dX12_lowestCap_33 ⟨Nat.le_of_ble_eq_true rfl, Nat.le_of_ble_eq_true rfl⟩ ?_
        exact a_iret C hlocks hr dX12_lowestCap_36 rfl rfl
      · skip
        have hlt : i < k := by
          rcases Nat.lt_or_ge i k with z | z
          · exact z
          · have e : i = k := by omega
            subst e
            exact absurd hk1 (x_bi_z h22)
        refine a_iinc C dX12_lowestCap_25 0 rfl (v := (nI (i + 1 + 1))) (x_inc (i + 1)) (by decide) (lst2 := [(1, .int (nI (i + 1 + 1))), (0, .ref (x_b G + 175))]) rfl ?_
        refine a_goto C dX12_lowestCap_28 (tgt := 17) (by decide) ?_
        refine a_sub (lst2 := [(1, .int (nI (i + 1 + 1))), (0, .ref (x_b G + 175))]) [0, 1] rfl ?_
        exact ih (i + 1) (by omega) (by omega) 
  refine a_sub (lst2 := [(1, .int 1), (0, .ref (x_b G + 175))]) [0, 1] rfl ?_
  exact L17 (k + 1) 0 (by omega) (by omega) 

