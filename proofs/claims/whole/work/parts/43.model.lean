/-- bits -/
theorem x_bit : ∀ m, m < 256 → ∀ a, a < 8 → (m ||| 2 ^ a < 256 ∧ nI m ||| (1 <<< (nI a &&& 31)) = nI (m ||| 2 ^ a) ∧ ∀ s, s < 8 → (((nI (m ||| 2 ^ a) >>> (nI s &&& 31)) &&& 1 = 1) ↔ (((nI m >>> (nI s &&& 31)) &&& 1 = 1) ∨ s = a))) := by decide +kernel
def g_on (x : Int32) (s : Nat) : Prop := (x >>> (nI s &&& 31)) &&& 1 = 1
def g_bt (b : Nat → Bool) : Nat → Int32
  | 0 => 0
  | k + 1 => g_bt b k ||| (if b k = true then 1 <<< (nI k &&& 31) else 0)
theorem x_on0 : ∀ s, s < 8 → ¬ (((nI 0 >>> (nI s &&& 31)) &&& 1 = 1)) := by decide +kernel
theorem x_or0 : ∀ m, m < 256 → nI m ||| 0 = nI m := by decide +kernel
theorem g_bt_p (b : Nat → Bool) : ∀ n, n ≤ 8 → ∃ m, m < 256 ∧ g_bt b n = nI m ∧ ∀ s, s < 8 → (g_on (nI m) s ↔ s < n ∧ b s = true)
  | 0, _ => ⟨0, by decide, rfl, fun s hs => ⟨fun h => absurd h (x_on0 s hs), fun h => absurd h.1 (Nat.not_lt_zero s)⟩⟩
  | n + 1, h => by
    obtain ⟨m, hm, e, hp⟩ := g_bt_p b n (by omega)
    by_cases q : b n = true
    · obtain ⟨h1, h2, h3⟩ := x_bit m hm n (by omega)
      refine ⟨m ||| 2 ^ n, h1, by rw [g_bt, e, if_pos q, h2], fun s hs => ?_⟩
      have h4 := h3 s hs
      have h5 := hp s hs
      unfold g_on at *
      rw [h4, h5]
      constructor
      · rintro (z | rfl)
        · exact ⟨by omega, z.2⟩
        · exact ⟨by omega, q⟩
      · intro z
        by_cases e2 : s = n
        · exact Or.inr e2
        · exact Or.inl ⟨by omega, z.2⟩
    · refine ⟨m, hm, by rw [g_bt, e, if_neg q, x_or0 m hm], fun s hs => ?_⟩
      rw [hp s hs]
      constructor
      · intro z; exact ⟨by omega, z.2⟩
      · intro z
        refine ⟨?_, z.2⟩
        rcases Nat.lt_or_ge s n with y | y
        · exact y
        · have e2 : s = n := by omega
          subst e2
          exact absurd z.2 q
theorem g_bt_on (b : Nat → Bool) {n s : Nat} (hn : n ≤ 8) (hs : s < 8) : g_on (g_bt b n) s ↔ s < n ∧ b s = true := by
  obtain ⟨m, hm, e, hp⟩ := g_bt_p b n hn
  rw [e]
  exact hp s hs
def g_lt (b : Nat → Bool) (w : Nat → Int32) : Nat → Int32
  | 0 => 0
  | k + 1 => if b k = true then g_lt b w k ||| (1 <<< (w k &&& 31)) else g_lt b w k
/-- whether one of the first k stands in street s and burns -/
def g_ls (b : Nat → Bool) (w : Nat → Int32) (s : Nat) : Nat → Bool
  | 0 => false
  | k + 1 => g_ls b w s k || decide (w k = nI s ∧ b k = true)
theorem g_lt_p (b : Nat → Bool) (w : Nat → Int32) : ∀ n, n ≤ 8 → (∀ j, j < n → ∃ a, a < 4 ∧ w j = nI a) → ∃ m, m < 256 ∧ g_lt b w n = nI m ∧ ∀ s, s < 4 → (g_on (nI m) s ↔ g_ls b w s n = true)
  | 0, _, _ => ⟨0, by decide, rfl, fun s hs => ⟨fun h => absurd h (x_on0 s (by omega)), fun h => by simp [g_ls] at h⟩⟩
  | n + 1, h, hw => by
    obtain ⟨m, hm, e, hp⟩ := g_lt_p b w n (by omega) (fun j hj => hw j (by omega))
    obtain ⟨a, ha, ea⟩ := hw n (by omega)
    by_cases q : b n = true
    · obtain ⟨h1, h2, h3⟩ := x_bit m hm a (by omega)
      refine ⟨m ||| 2 ^ a, h1, by rw [g_lt, e, if_pos q, ea, h2], fun s hs => ?_⟩
      have h4 := h3 s (by omega)
      have h5 := hp s hs
      unfold g_on at *
      rw [h4, h5, g_ls, Bool.or_eq_true, decide_eq_true_iff, ea]
      constructor
      · rintro (z | rfl)
        · exact Or.inl z
        · exact Or.inr ⟨rfl, q⟩
      · rintro (z | z)
        · exact Or.inl z
        · exact Or.inr ((nI_eq (by omega) (by omega)).mp z.1).symm
    · refine ⟨m, hm, by rw [g_lt, e, if_neg q], fun s hs => ?_⟩
      rw [hp s hs, g_ls, Bool.or_eq_true, decide_eq_true_iff]
      exact ⟨Or.inl, fun z => z.elim id (fun y => absurd y.2 q)⟩
theorem g_lt_on (b : Nat → Bool) (w : Nat → Int32) {n s : Nat} (hn : n ≤ 8) (hw : ∀ j, j < n → ∃ a, a < 4 ∧ w j = nI a) (hs : s < 4) : g_on (g_lt b w n) s ↔ g_ls b w s n = true := by
  obtain ⟨m, hm, e, hp⟩ := g_lt_p b w n hn hw
  rw [e]
  exact hp s hs
theorem x_lt_pred0 {a : Nat} (ha : a < 1000) : nI a - 1 < 0 ↔ a = 0 := by
  have e := pk_sub_toInt (a := a) (b := 1) (by omega) (by omega)
  have z : (0 : Int32).toInt = 0 := rfl
  rw [Int32.lt_iff_toInt_lt, z, show nI a - 1 = nI a - nI 1 from rfl, e]
  omega
theorem x_pr2 {q u : Nat} (h : u < q) : nI (q - u) - 1 = nI (q - 1 - u) := (pk_sub (a := q - u) (b := 1) (by omega)).trans (congrArg nI (by omega))
theorem x_pr3 {q u : Nat} : nI (q - 1 - u) + Int32.ofInt (-1) = nI (q - (u + 1)) - 1 := by
  rw [show q - (u + 1) = q - 1 - u by omega, Int32.sub_eq_add_neg]
  rfl
set_option maxHeartbeats 1000000 in
set_option maxRecDepth 100000 in
theorem c_M_burningLamps (l : Launch) (G : xG) (d : xd) (n : Nat) (hn : d 176 0 = nI n) (h8 : n ≤ 8) : x_M G l yX12_burningLamps wsX12_burningLamps 2 0 0 [.ref (x_b G + 175)] d (some (.int (g_bt (g_rdy (d 176)) n))) d := by
  have iX12 : ∀ w ∈ u_ws RX12 TX12 16, w ∈ wsX12_burningLamps := by decide +kernel
  refine x_start (cc := cX12_burningLamps) (maxL := 3) (ret := (some .int)) (own := RX12) (by decide) rfl rfl (Nat.le_of_ble_eq_true rfl) (lst := [(0, .ref (x_b G + 175))]) rfl ?_
  intro p e s m args below meth c C hr hlocks
  refine a_iconst C dX12_burningLamps_0 (v := 0) (by decide) ?_
  refine a_istore_n C dX12_burningLamps_1 (by decide) (lst2 := [(1, .int 0), (0, .ref (x_b G + 175))]) rfl ?_
  refine a_iconst C dX12_burningLamps_2 (v := 0) (by decide) ?_
  refine a_istore_n C dX12_burningLamps_3 (by decide) (lst2 := [(2, .int 0), (1, .int 0), (0, .ref (x_b G + 175))]) rfl ?_
  have L4 : ∀ (j i : Nat), i ≤ n → n < i + j → Ab G p l e (x_rm 2 0 0) s m args below meth c 3 0 0 (MQ below (x_Q G (some (.int (g_bt (g_rdy (d 176)) n))) d) args s 0 0 (x_A G)) 4 [(2, .int (nI i)), (1, .int (g_bt (g_rdy (d 176)) i)), (0, .ref (x_b G + 175))] [] d := by
    intro j
    induction j with
    | zero => intro i h1 h2; exact absurd h2 (by omega)
    | succ j ih =>
      intro i hi hj 
      refine a_iload_n C dX12_burningLamps_4 0 rfl ?_
      refine a_aload_n C dX12_burningLamps_5 2 rfl ?_
      refine a_getR C (k := 175) iX12 x_k175 rfl (j := 0) rfl (by decide) (by decide +kernel) dX12_burningLamps_6 ?_
      refine a_iconst C dX12_burningLamps_9 (v := 0) (by decide) ?_
      refine a_ialdN C (k := 176) x_k176 (i := 0) rfl (by decide) (by first | decide | omega) dX12_burningLamps_10 ?_
      refine a_top (y := (nI n)) hn ?_
      refine a_icmp_ge C dX12_burningLamps_11 (tgt := 38) (by decide) (fun h11 => ?_) (fun h11 => ?_)
      · skip
        have e := x_ge h11 hi (by omega)
        have e9 := e.symm
        subst e9
        clear e
        refine a_iload_n C dX12_burningLamps_38 1 rfl ?_
        exact a_iret C hlocks hr dX12_burningLamps_39 rfl rfl
      · skip
        have hlt := x_nge h11 hi
        refine a_iload_n C dX12_burningLamps_14 1 rfl ?_
        refine a_aload_n C dX12_burningLamps_15 2 rfl ?_
        refine a_iload_n C dX12_burningLamps_16 0 rfl ?_
        refine a_callV C (k := 175) (As := [.int (nI i)]) (rest := [.int (g_bt (g_rdy (d 176)) i)]) (c_M_burns l G d i (by omega)) (cwV 1 C.1.2.2.2.2 gX12_burningLamps_X12_burns rfl rfl rfl (by decide +kernel) ⟨Nat.le_of_ble_eq_true rfl, Nat.le_of_ble_eq_true rfl⟩) x_k175 (q := (RX12, TX12, 16)) rfl rfl rfl rfl (Nat.le_of_ble_eq_true rfl) dX12_burningLamps_17 ⟨Nat.le_of_ble_eq_true rfl, Nat.le_of_ble_eq_true rfl⟩ ?_
        refine a_if_eq C dX12_burningLamps_20 (tgt := 29) (by decide) (fun h20 => ?_) (fun h20 => ?_)
        · skip
          refine a_iconst C dX12_burningLamps_29 (v := 0) (by decide) ?_
          refine a_ior C dX12_burningLamps_30 ?_
          refine a_istore_n C dX12_burningLamps_31 (by decide) (lst2 := [(1, .int ((g_bt (g_rdy (d 176)) i) ||| 0)), (2, .int (nI i)), (0, .ref (x_b G + 175))]) rfl ?_
          refine a_iinc C dX12_burningLamps_32 1 rfl (v := (nI (i + 1))) (x_inc i) (by decide) (lst2 := [(2, .int (nI (i + 1))), (1, .int ((g_bt (g_rdy (d 176)) i) ||| 0)), (0, .ref (x_b G + 175))]) rfl ?_
          refine a_goto C dX12_burningLamps_35 (tgt := 4) (by decide) ?_
          refine a_sub (lst2 := [(2, .int (nI (i + 1))), (1, .int ((g_bt (g_rdy (d 176)) i) ||| 0)), (0, .ref (x_b G + 175))]) [0, 1, 2] rfl ?_
          refine a_to (lst2 := [(2, .int (nI ((i + 1)))), (1, .int (g_bt (g_rdy (d 176)) ((i + 1)))), (0, .ref (x_b G + 175))]) (st2 := []) (d2 := d) (by rw [g_bt, if_neg (x_bi_z h20)]) rfl rfl ?_
          exact ih (i + 1) (by omega) (by omega) 
        · skip
          refine a_iconst C dX12_burningLamps_23 (v := 1) (by decide) ?_
          refine a_iload_n C dX12_burningLamps_24 0 rfl ?_
          refine a_ishl C dX12_burningLamps_25 ?_
          refine a_goto C dX12_burningLamps_26 (tgt := 30) (by decide) ?_
          refine a_ior C dX12_burningLamps_30 ?_
          refine a_istore_n C dX12_burningLamps_31 (by decide) (lst2 := [(1, .int ((g_bt (g_rdy (d 176)) i) ||| (1 <<< ((nI i) &&& 31)))), (2, .int (nI i)), (0, .ref (x_b G + 175))]) rfl ?_
          refine a_iinc C dX12_burningLamps_32 1 rfl (v := (nI (i + 1))) (x_inc i) (by decide) (lst2 := [(2, .int (nI (i + 1))), (1, .int ((g_bt (g_rdy (d 176)) i) ||| (1 <<< ((nI i) &&& 31)))), (0, .ref (x_b G + 175))]) rfl ?_
          refine a_goto C dX12_burningLamps_35 (tgt := 4) (by decide) ?_
          refine a_sub (lst2 := [(2, .int (nI (i + 1))), (1, .int ((g_bt (g_rdy (d 176)) i) ||| (1 <<< ((nI i) &&& 31)))), (0, .ref (x_b G + 175))]) [0, 1, 2] rfl ?_
          refine a_to (lst2 := [(2, .int (nI ((i + 1)))), (1, .int (g_bt (g_rdy (d 176)) ((i + 1)))), (0, .ref (x_b G + 175))]) (st2 := []) (d2 := d) (by rw [g_bt, if_pos (x_bi_nz h20)]) rfl rfl ?_
          exact ih (i + 1) (by omega) (by omega) 
  refine a_sub (lst2 := [(2, .int 0), (1, .int 0), (0, .ref (x_b G + 175))]) [0, 1, 2] rfl ?_
  exact L4 (n + 1) 0 (by omega) (by omega) 

/-- what moth k does; w: the lamp that it circles, at: whether that one burns -/
def g_act (z : Nat → Int32) (k w : Nat) (on9 : Bool) : Nat → Int32 := if z (74 + k) = 0 then (if on9 = true ∧ 0 < z (38 + w) then upd z (38 + w) (z (38 + w) - 1) else z) else if on9 = true then upd z (68 + k) (z (68 + k) + 1) else upd z (74 + k) (z (74 + k) - 1)
def g_at (z : Nat → Int32) (b : Nat → Bool) (k : Nat) : Bool := decide (0 ≤ z (62 + k) - 1) && b (z (62 + k) - 1).toNatClampNeg
def g_acts (z : Nat → Int32) (b : Nat → Bool) : Nat → Nat → Int32
  | 0 => z
  | k + 1 => g_act (g_acts z b k) k (z (62 + k) - 1).toNatClampNeg (g_at z b k)
theorem g_act_out {z : Nat → Int32} {k w j : Nat} {on9 : Bool} (h : j < 38 ∨ 46 ≤ j) (hw : w < 8) (h1 : j < 68 ∨ 80 ≤ j) (hk : k < 6) : g_act z k w on9 j = z j := by
  unfold g_act
  split
  · split
    · simp only [upd]; rw [if_neg (by omega)]
    · rfl
  · split
    · simp only [upd]; rw [if_neg (by omega)]
    · simp only [upd]; rw [if_neg (by omega)]
set_option maxHeartbeats 1000000 in
set_option maxRecDepth 100000 in
theorem c_M_mothActs_n (l : Launch) (G : xG) (d : xd) (k : Nat) (hk : k < 6) (x : Int32) (w : Nat) (hc : d 176 (62 + k) - 1 = -1) : x_M G l yX12_mothActs wsX12_mothActs 2 0 0 [.ref (x_b G + 175), .int (nI k), .int x] d none (x_r d 176 (g_act (d 176) k w false)) := by
  have iX12 : ∀ w ∈ u_ws RX12 TX12 16, w ∈ wsX12_mothActs := by decide +kernel
  refine x_start (cc := cX12_mothActs) (maxL := 5) (ret := none) (own := RX12) (by decide) rfl rfl (Nat.le_of_ble_eq_true rfl) (lst := [(0, .ref (x_b G + 175)), (1, .int (nI k)), (2, .int x)]) rfl ?_
  intro p e s m args below meth c C hr hlocks
  refine a_aload_n C dX12_mothActs_0 0 rfl ?_
  refine a_getR C (k := 175) iX12 x_k175 rfl (j := 0) rfl (by decide) (by decide +kernel) dX12_mothActs_1 ?_
  refine a_bipush C dX12_mothActs_4 (v := 62) (by decide) ?_
  refine a_iload_n C dX12_mothActs_6 1 rfl ?_
  refine a_iadd C dX12_mothActs_7 ?_
  refine a_ialdN C (k := 176) x_k176 (i := 62 + k) (x_add2 (a := 62) (b := k) rfl rfl) (by omega) (by first | decide | omega) dX12_mothActs_8 ?_
  refine a_iconst C dX12_mothActs_9 (v := 1) (by decide) ?_
  refine a_isub C dX12_mothActs_10 ?_
  refine a_top (y := (-1)) hc ?_
  refine a_istore_n C dX12_mothActs_11 (by decide) (lst2 := [(3, .int (-1)), (0, .ref (x_b G + 175)), (1, .int (nI k)), (2, .int x)]) rfl ?_
  refine a_iload_n C dX12_mothActs_12 0 rfl ?_
  refine a_iconst C dX12_mothActs_13 (v := -1) (by decide) ?_
  refine a_icmp_eq C dX12_mothActs_14 (tgt := 30) (by decide) (fun _ => ?_) (fun h => absurd h (by decide))
  refine a_iconst C dX12_mothActs_30 (v := 0) (by decide) ?_
  refine a_istore C dX12_mothActs_31 (by decide) (lst2 := [(4, .int 0), (3, .int (-1)), (0, .ref (x_b G + 175)), (1, .int (nI k)), (2, .int x)]) rfl ?_
  refine a_aload_n C dX12_mothActs_33 2 rfl ?_
  refine a_getR C (k := 175) iX12 x_k175 rfl (j := 0) rfl (by decide) (by decide +kernel) dX12_mothActs_34 ?_
  refine a_bipush C dX12_mothActs_37 (v := 74) (by decide) ?_
  refine a_iload_n C dX12_mothActs_39 3 rfl ?_
  refine a_iadd C dX12_mothActs_40 ?_
  refine a_ialdN C (k := 176) x_k176 (i := 74 + k) (x_add2 (a := 74) (b := k) rfl rfl) (by omega) (by first | decide | omega) dX12_mothActs_41 ?_
  refine a_if_ne C dX12_mothActs_42 (tgt := 78) (by decide) (fun h42 => ?_) (fun h42 => ?_)
  · skip
    refine a_iload C dX12_mothActs_78 0 rfl ?_
    refine a_if_eq C dX12_mothActs_80 (tgt := 99) (by decide) (fun _ => ?_) (fun h => absurd h (by decide))
    refine a_aload_n C dX12_mothActs_99 2 rfl ?_
    refine a_getR C (k := 175) iX12 x_k175 rfl (j := 0) rfl (by decide) (by decide +kernel) dX12_mothActs_100 ?_
    refine a_bipush C dX12_mothActs_103 (v := 74) (by decide) ?_
    refine a_iload_n C dX12_mothActs_105 3 rfl ?_
    refine a_iadd C dX12_mothActs_106 ?_
    refine a_dup2 C dX12_mothActs_107 rfl rfl ?_
    refine a_ialdN C (k := 176) x_k176 (i := 74 + k) (x_add2 (a := 74) (b := k) rfl rfl) (by omega) (by first | decide | omega) dX12_mothActs_108 ?_
    refine a_iconst C dX12_mothActs_109 (v := 1) (by decide) ?_
    refine a_isub C dX12_mothActs_110 ?_
    refine a_iastN C (k := 176) x_k176 (i := 74 + k) (x_add2 (a := 74) (b := k) rfl rfl) (by omega) (by first | decide | omega) dX12_mothActs_111 ?_
    exact a_vret C hlocks hr dX12_mothActs_112 (by rw [g_act, if_neg h42, if_neg (fun z => Bool.noConfusion z)]; first | rfl | exact x_r_id d 176)
  · skip
    refine a_iload C dX12_mothActs_45 0 rfl ?_
    refine a_if_eq C dX12_mothActs_47 (tgt := 112) (by decide) (fun _ => ?_) (fun h => absurd h (by decide))
    exact a_vret C hlocks hr dX12_mothActs_112 (by rw [g_act, if_pos h42, if_neg (fun z => Bool.noConfusion z.1)]; first | rfl | exact x_r_id d 176)

set_option maxHeartbeats 1000000 in
set_option maxRecDepth 100000 in
theorem c_M_mothActs_0 (l : Launch) (G : xG) (d : xd) (k : Nat) (hk : k < 6) (x : Int32) (w : Nat) (hw : w < 8) (hc : d 176 (62 + k) - 1 = nI w) (hb : ¬ g_on x w) : x_M G l yX12_mothActs wsX12_mothActs 2 0 0 [.ref (x_b G + 175), .int (nI k), .int x] d none (x_r d 176 (g_act (d 176) k w false)) := by
  have iX12 : ∀ w ∈ u_ws RX12 TX12 16, w ∈ wsX12_mothActs := by decide +kernel
  refine x_start (cc := cX12_mothActs) (maxL := 5) (ret := none) (own := RX12) (by decide) rfl rfl (Nat.le_of_ble_eq_true rfl) (lst := [(0, .ref (x_b G + 175)), (1, .int (nI k)), (2, .int x)]) rfl ?_
  intro p e s m args below meth c C hr hlocks
  refine a_aload_n C dX12_mothActs_0 0 rfl ?_
  refine a_getR C (k := 175) iX12 x_k175 rfl (j := 0) rfl (by decide) (by decide +kernel) dX12_mothActs_1 ?_
  refine a_bipush C dX12_mothActs_4 (v := 62) (by decide) ?_
  refine a_iload_n C dX12_mothActs_6 1 rfl ?_
  refine a_iadd C dX12_mothActs_7 ?_
  refine a_ialdN C (k := 176) x_k176 (i := 62 + k) (x_add2 (a := 62) (b := k) rfl rfl) (by omega) (by first | decide | omega) dX12_mothActs_8 ?_
  refine a_iconst C dX12_mothActs_9 (v := 1) (by decide) ?_
  refine a_isub C dX12_mothActs_10 ?_
  refine a_top (y := (nI w)) hc ?_
  refine a_istore_n C dX12_mothActs_11 (by decide) (lst2 := [(3, .int (nI w)), (0, .ref (x_b G + 175)), (1, .int (nI k)), (2, .int x)]) rfl ?_
  refine a_iload_n C dX12_mothActs_12 0 rfl ?_
  refine a_iconst C dX12_mothActs_13 (v := -1) (by decide) ?_
  refine a_icmp_eq C dX12_mothActs_14 (tgt := 30) (by decide) (fun h => False.elim (nI_pos (n := w) (by omega) (by rw [h]; decide))) (fun h14 => ?_)
  refine a_iload_n C dX12_mothActs_17 3 rfl ?_
  refine a_iload_n C dX12_mothActs_18 0 rfl ?_
  refine a_ishr C dX12_mothActs_19 ?_
  refine a_iconst C dX12_mothActs_20 (v := 1) (by decide) ?_
  refine a_iand C dX12_mothActs_21 ?_
  refine a_iconst C dX12_mothActs_22 (v := 1) (by decide) ?_
  refine a_icmp_ne C dX12_mothActs_23 (tgt := 30) (by decide) (fun h23 => ?_) (fun h => False.elim (hb h))
  refine a_iconst C dX12_mothActs_30 (v := 0) (by decide) ?_
  refine a_istore C dX12_mothActs_31 (by decide) (lst2 := [(4, .int 0), (3, .int (nI w)), (0, .ref (x_b G + 175)), (1, .int (nI k)), (2, .int x)]) rfl ?_
  refine a_aload_n C dX12_mothActs_33 2 rfl ?_
  refine a_getR C (k := 175) iX12 x_k175 rfl (j := 0) rfl (by decide) (by decide +kernel) dX12_mothActs_34 ?_
  refine a_bipush C dX12_mothActs_37 (v := 74) (by decide) ?_
  refine a_iload_n C dX12_mothActs_39 3 rfl ?_
  refine a_iadd C dX12_mothActs_40 ?_
  refine a_ialdN C (k := 176) x_k176 (i := 74 + k) (x_add2 (a := 74) (b := k) rfl rfl) (by omega) (by first | decide | omega) dX12_mothActs_41 ?_
  refine a_if_ne C dX12_mothActs_42 (tgt := 78) (by decide) (fun h42 => ?_) (fun h42 => ?_)
  · skip
    refine a_iload C dX12_mothActs_78 0 rfl ?_
    refine a_if_eq C dX12_mothActs_80 (tgt := 99) (by decide) (fun _ => ?_) (fun h => absurd h (by decide))
    refine a_aload_n C dX12_mothActs_99 2 rfl ?_
    refine a_getR C (k := 175) iX12 x_k175 rfl (j := 0) rfl (by decide) (by decide +kernel) dX12_mothActs_100 ?_
    refine a_bipush C dX12_mothActs_103 (v := 74) (by decide) ?_
    refine a_iload_n C dX12_mothActs_105 3 rfl ?_
    refine a_iadd C dX12_mothActs_106 ?_
    refine a_dup2 C dX12_mothActs_107 rfl rfl ?_
    refine a_ialdN C (k := 176) x_k176 (i := 74 + k) (x_add2 (a := 74) (b := k) rfl rfl) (by omega) (by first | decide | omega) dX12_mothActs_108 ?_
    refine a_iconst C dX12_mothActs_109 (v := 1) (by decide) ?_
    refine a_isub C dX12_mothActs_110 ?_
    refine a_iastN C (k := 176) x_k176 (i := 74 + k) (x_add2 (a := 74) (b := k) rfl rfl) (by omega) (by first | decide | omega) dX12_mothActs_111 ?_
    exact a_vret C hlocks hr dX12_mothActs_112 (by rw [g_act, if_neg h42, if_neg (fun z => Bool.noConfusion z)]; first | rfl | exact x_r_id d 176)
  · skip
    refine a_iload C dX12_mothActs_45 0 rfl ?_
    refine a_if_eq C dX12_mothActs_47 (tgt := 112) (by decide) (fun _ => ?_) (fun h => absurd h (by decide))
    exact a_vret C hlocks hr dX12_mothActs_112 (by rw [g_act, if_pos h42, if_neg (fun z => Bool.noConfusion z.1)]; first | rfl | exact x_r_id d 176)

set_option maxHeartbeats 1000000 in
set_option maxRecDepth 100000 in
theorem c_M_mothActs_1 (l : Launch) (G : xG) (d : xd) (k : Nat) (hk : k < 6) (x : Int32) (w : Nat) (hw : w < 8) (hc : d 176 (62 + k) - 1 = nI w) (hb : g_on x w) : x_M G l yX12_mothActs wsX12_mothActs 2 0 0 [.ref (x_b G + 175), .int (nI k), .int x] d none (x_r d 176 (g_act (d 176) k w true)) := by
  have iX12 : ∀ w ∈ u_ws RX12 TX12 16, w ∈ wsX12_mothActs := by decide +kernel
  refine x_start (cc := cX12_mothActs) (maxL := 5) (ret := none) (own := RX12) (by decide) rfl rfl (Nat.le_of_ble_eq_true rfl) (lst := [(0, .ref (x_b G + 175)), (1, .int (nI k)), (2, .int x)]) rfl ?_
  intro p e s m args below meth c C hr hlocks
  refine a_aload_n C dX12_mothActs_0 0 rfl ?_
  refine a_getR C (k := 175) iX12 x_k175 rfl (j := 0) rfl (by decide) (by decide +kernel) dX12_mothActs_1 ?_
  refine a_bipush C dX12_mothActs_4 (v := 62) (by decide) ?_
  refine a_iload_n C dX12_mothActs_6 1 rfl ?_
  refine a_iadd C dX12_mothActs_7 ?_
  refine a_ialdN C (k := 176) x_k176 (i := 62 + k) (x_add2 (a := 62) (b := k) rfl rfl) (by omega) (by first | decide | omega) dX12_mothActs_8 ?_
  refine a_iconst C dX12_mothActs_9 (v := 1) (by decide) ?_
  refine a_isub C dX12_mothActs_10 ?_
  refine a_top (y := (nI w)) hc ?_
  refine a_istore_n C dX12_mothActs_11 (by decide) (lst2 := [(3, .int (nI w)), (0, .ref (x_b G + 175)), (1, .int (nI k)), (2, .int x)]) rfl ?_
  refine a_iload_n C dX12_mothActs_12 0 rfl ?_
  refine a_iconst C dX12_mothActs_13 (v := -1) (by decide) ?_
  refine a_icmp_eq C dX12_mothActs_14 (tgt := 30) (by decide) (fun h => False.elim (nI_pos (n := w) (by omega) (by rw [h]; decide))) (fun h14 => ?_)
  refine a_iload_n C dX12_mothActs_17 3 rfl ?_
  refine a_iload_n C dX12_mothActs_18 0 rfl ?_
  refine a_ishr C dX12_mothActs_19 ?_
  refine a_iconst C dX12_mothActs_20 (v := 1) (by decide) ?_
  refine a_iand C dX12_mothActs_21 ?_
  refine a_iconst C dX12_mothActs_22 (v := 1) (by decide) ?_
  refine a_icmp_ne C dX12_mothActs_23 (tgt := 30) (by decide) (fun h => False.elim (h hb)) (fun h23 => ?_)
  refine a_iconst C dX12_mothActs_26 (v := 1) (by decide) ?_
  refine a_goto C dX12_mothActs_27 (tgt := 31) (by decide) ?_
  refine a_istore C dX12_mothActs_31 (by decide) (lst2 := [(4, .int 1), (3, .int (nI w)), (0, .ref (x_b G + 175)), (1, .int (nI k)), (2, .int x)]) rfl ?_
  refine a_aload_n C dX12_mothActs_33 2 rfl ?_
  refine a_getR C (k := 175) iX12 x_k175 rfl (j := 0) rfl (by decide) (by decide +kernel) dX12_mothActs_34 ?_
  refine a_bipush C dX12_mothActs_37 (v := 74) (by decide) ?_
  refine a_iload_n C dX12_mothActs_39 3 rfl ?_
  refine a_iadd C dX12_mothActs_40 ?_
  refine a_ialdN C (k := 176) x_k176 (i := 74 + k) (x_add2 (a := 74) (b := k) rfl rfl) (by omega) (by first | decide | omega) dX12_mothActs_41 ?_
  refine a_if_ne C dX12_mothActs_42 (tgt := 78) (by decide) (fun h42 => ?_) (fun h42 => ?_)
  · skip
    refine a_iload C dX12_mothActs_78 0 rfl ?_
    refine a_if_eq C dX12_mothActs_80 (tgt := 99) (by decide) (fun h => absurd h (by decide)) (fun _ => ?_)
    refine a_aload_n C dX12_mothActs_83 2 rfl ?_
    refine a_getR C (k := 175) iX12 x_k175 rfl (j := 0) rfl (by decide) (by decide +kernel) dX12_mothActs_84 ?_
    refine a_bipush C dX12_mothActs_87 (v := 68) (by decide) ?_
    refine a_iload_n C dX12_mothActs_89 3 rfl ?_
    refine a_iadd C dX12_mothActs_90 ?_
    refine a_dup2 C dX12_mothActs_91 rfl rfl ?_
    refine a_ialdN C (k := 176) x_k176 (i := 68 + k) (x_add2 (a := 68) (b := k) rfl rfl) (by omega) (by first | decide | omega) dX12_mothActs_92 ?_
    refine a_iconst C dX12_mothActs_93 (v := 1) (by decide) ?_
    refine a_iadd C dX12_mothActs_94 ?_
    refine a_iastN C (k := 176) x_k176 (i := 68 + k) (x_add2 (a := 68) (b := k) rfl rfl) (by omega) (by first | decide | omega) dX12_mothActs_95 ?_
    refine a_goto C dX12_mothActs_96 (tgt := 112) (by decide) ?_
    exact a_vret C hlocks hr dX12_mothActs_112 (by rw [g_act, if_neg h42, if_pos rfl]; first | rfl | exact x_r_id d 176)
  · skip
    refine a_iload C dX12_mothActs_45 0 rfl ?_
    refine a_if_eq C dX12_mothActs_47 (tgt := 112) (by decide) (fun h => absurd h (by decide)) (fun _ => ?_)
    refine a_aload_n C dX12_mothActs_50 2 rfl ?_
    refine a_getR C (k := 175) iX12 x_k175 rfl (j := 0) rfl (by decide) (by decide +kernel) dX12_mothActs_51 ?_
    refine a_bipush C dX12_mothActs_54 (v := 38) (by decide) ?_
    refine a_iload_n C dX12_mothActs_56 1 rfl ?_
    refine a_iadd C dX12_mothActs_57 ?_
    refine a_ialdN C (k := 176) x_k176 (i := 38 + w) (x_add2 (a := 38) (b := w) rfl rfl) (by omega) (by first | decide | omega) dX12_mothActs_58 ?_
    refine a_if_le C dX12_mothActs_59 (tgt := 112) (by decide) (fun h59 => ?_) (fun h59 => ?_)
    · skip
      exact a_vret C hlocks hr dX12_mothActs_112 (by rw [g_act, if_pos h42, if_neg (fun z => absurd z.2 (Int32.not_lt.mpr h59))]; first | rfl | exact x_r_id d 176)
    · skip
      refine a_aload_n C dX12_mothActs_62 2 rfl ?_
      refine a_getR C (k := 175) iX12 x_k175 rfl (j := 0) rfl (by decide) (by decide +kernel) dX12_mothActs_63 ?_
      refine a_bipush C dX12_mothActs_66 (v := 38) (by decide) ?_
      refine a_iload_n C dX12_mothActs_68 1 rfl ?_
      refine a_iadd C dX12_mothActs_69 ?_
      refine a_dup2 C dX12_mothActs_70 rfl rfl ?_
      refine a_ialdN C (k := 176) x_k176 (i := 38 + w) (x_add2 (a := 38) (b := w) rfl rfl) (by omega) (by first | decide | omega) dX12_mothActs_71 ?_
      refine a_iconst C dX12_mothActs_72 (v := 1) (by decide) ?_
      refine a_isub C dX12_mothActs_73 ?_
      refine a_iastN C (k := 176) x_k176 (i := 38 + w) (x_add2 (a := 38) (b := w) rfl rfl) (by omega) (by first | decide | omega) dX12_mothActs_74 ?_
      refine a_goto C dX12_mothActs_75 (tgt := 112) (by decide) ?_
      exact a_vret C hlocks hr dX12_mothActs_112 (by rw [g_act, if_pos h42, if_pos ⟨rfl, Int32.not_le.mp h59⟩]; first | rfl | exact x_r_id d 176)

theorem c_M_mothActs (l : Launch) (G : xG) (d : xd) (k : Nat) (hk : k < 6) (x : Int32) (z : Nat → Int32) (b : Nat → Bool) (hz : d 176 (62 + k) = z (62 + k)) (hr : z (62 + k) - 1 = -1 ∨ ∃ w, w < 8 ∧ (g_on x w ↔ b w = true) ∧ z (62 + k) - 1 = nI w) :
    x_M G l yX12_mothActs wsX12_mothActs 2 0 0 [.ref (x_b G + 175), .int (nI k), .int x] d none (x_r d 176 (g_act (d 176) k (z (62 + k) - 1).toNatClampNeg (g_at z b k))) := by
  rcases hr with h | ⟨w, hw, hb, h⟩
  · have e : g_at z b k = false := by
      unfold g_at
      rw [h]
      rfl
    rw [e]
    exact c_M_mothActs_n l G d k hk x _ (by rw [hz]; exact h)
  · have e1 : (z (62 + k) - 1).toNatClampNeg = w := by rw [h]; exact nI_clamp (by omega)
    have e2 : g_at z b k = b w := by
      unfold g_at
      rw [e1, h, decide_eq_true (nI_pos' (by omega))]
      rfl
    rw [e1, e2]
    by_cases q : b w = true
    · rw [q]
      exact c_M_mothActs_1 l G d k hk x w hw (by rw [hz]; exact h) (hb.mpr q)
    · rw [Bool.not_eq_true _ |>.mp q]
      exact c_M_mothActs_0 l G d k hk x w hw (by rw [hz]; exact h) (fun y => q (hb.mp y))
def g_lv1 (z : Nat → Int32) (w : Nat) : Nat → Int32 := if z (68 + w) = 2 then upd (g_cgp (g_cgp (g_cgp z 62 w 6) 68 w 6) 74 w 6) 1 (z 1 - 1) else z
def g_lv (z : Nat → Int32) (q : Nat) : Nat → Nat → Int32
  | 0 => z
  | u + 1 => g_lv1 (g_lv z q u) (q - 1 - u)
theorem g_lv1_out {z : Nat → Int32} {w j : Nat} (h : j < 62 ∨ 80 ≤ j) (h1 : j ≠ 1) : g_lv1 z w j = z j := by
  unfold g_lv1
  split
  · simp only [upd]
    rw [if_neg h1, g_cgp_out _ (by omega) (by omega), g_cgp_out _ (by omega) (by omega), g_cgp_out _ (by omega) (by omega)]
  · rfl
theorem g_lv_out {z : Nat → Int32} {q j : Nat} (h : j < 62 ∨ 80 ≤ j) (h1 : j ≠ 1) : ∀ u, g_lv z q u j = z j
  | 0 => rfl
  | u + 1 => by rw [g_lv, g_lv1_out h h1, g_lv_out h h1 u]
set_option maxHeartbeats 1000000 in
set_option maxRecDepth 100000 in
theorem c_M_mothsLeave (l : Launch) (G : xG) (d : xd) (q : Nat) (hq : d 176 1 = nI q) (h6 : q ≤ 6) : x_M G l yX12_mothsLeave wsX12_mothsLeave 2 0 0 [.ref (x_b G + 175)] d none (x_r d 176 (g_lv (d 176) q q)) := by
  have iX12 : ∀ w ∈ u_ws RX12 TX12 16, w ∈ wsX12_mothsLeave := by decide +kernel
  refine x_start (cc := cX12_mothsLeave) (maxL := 2) (ret := none) (own := RX12) (by decide) rfl rfl (Nat.le_of_ble_eq_true rfl) (lst := [(0, .ref (x_b G + 175))]) rfl ?_
  intro p e s m args below meth c C hr hlocks
  refine a_aload_n C dX12_mothsLeave_0 0 rfl ?_
  refine a_getR C (k := 175) iX12 x_k175 rfl (j := 0) rfl (by decide) (by decide +kernel) dX12_mothsLeave_1 ?_
  refine a_iconst C dX12_mothsLeave_4 (v := 1) (by decide) ?_
  refine a_ialdN C (k := 176) x_k176 (i := 1) rfl (by decide) (by first | decide | omega) dX12_mothsLeave_5 ?_
  refine a_top (y := (nI q)) hq ?_
  refine a_iconst C dX12_mothsLeave_6 (v := 1) (by decide) ?_
  refine a_isub C dX12_mothsLeave_7 ?_
  refine a_top (y := (nI (q - 0) - 1)) rfl ?_
  refine a_istore_n C dX12_mothsLeave_8 (by decide) (lst2 := [(1, .int (nI (q - 0) - 1)), (0, .ref (x_b G + 175))]) rfl ?_
  have L9 : ∀ (j u : Nat), u ≤ q → q < u + j → Ab G p l e (x_rm 2 0 0) s m args below meth c 2 0 0 (MQ below (x_Q G none (x_r d 176 (g_lv (d 176) q q))) args s 0 0 (x_A G)) 9 [(1, .int (nI (q - u) - 1)), (0, .ref (x_b G + 175))] [] (x_r d 176 (g_lv (d 176) q u)) := by
    intro j
    induction j with
    | zero => intro u h1 h2; exact absurd h2 (by omega)
    | succ j ih =>
      intro u hu hj 
      refine a_iload_n C dX12_mothsLeave_9 0 rfl ?_
      refine a_if_lt C dX12_mothsLeave_10 (tgt := 69) (by decide) (fun h10 => ?_) (fun h10 => ?_)
      · skip
        have e : u = q := by
          have := (x_lt_pred0 (a := q - u) (by omega)).mp h10
          omega
        subst e
        exact a_vret C hlocks hr dX12_mothsLeave_69 rfl
      · skip
        have hlt : u < q := by
          rcases Nat.lt_or_ge u q with z | z
          · exact z
          · exact absurd ((x_lt_pred0 (a := q - u) (by omega)).mpr (by omega)) h10
        refine a_to (lst2 := [(1, .int (nI (q - 1 - u))), (0, .ref (x_b G + 175))]) (st2 := []) (d2 := x_r d 176 (g_lv (d 176) q u)) (by rw [x_pr2 hlt]) rfl rfl ?_
        refine a_aload_n C dX12_mothsLeave_13 1 rfl ?_
        refine a_getR C (k := 175) iX12 x_k175 rfl (j := 0) rfl (by decide) (by decide +kernel) dX12_mothsLeave_14 ?_
        refine a_bipush C dX12_mothsLeave_17 (v := 68) (by decide) ?_
        refine a_iload_n C dX12_mothsLeave_19 0 rfl ?_
        refine a_iadd C dX12_mothsLeave_20 ?_
        refine a_ialdN C (k := 176) x_k176 (i := 68 + (q - 1 - u)) (x_add2 (a := 68) (b := q - 1 - u) rfl rfl) (by omega) (by first | decide | omega) dX12_mothsLeave_21 ?_
        refine a_top (y := (g_lv (d 176) q u (68 + (q - 1 - u)))) (by rw [x_r_same]) ?_
        refine a_iconst C dX12_mothsLeave_22 (v := 2) (by decide) ?_
        refine a_icmp_ne C dX12_mothsLeave_23 (tgt := 63) (by decide) (fun h23 => ?_) (fun h23 => ?_)
        · skip
          refine a_iinc C dX12_mothsLeave_63 0 rfl (v := (nI (q - (u + 1)) - 1)) x_pr3 (by decide) (lst2 := [(1, .int (nI (q - (u + 1)) - 1)), (0, .ref (x_b G + 175))]) rfl ?_
          refine a_goto C dX12_mothsLeave_66 (tgt := 9) (by decide) ?_
          refine a_sub (lst2 := [(1, .int (nI (q - (u + 1)) - 1)), (0, .ref (x_b G + 175))]) [0, 1] rfl ?_
          refine a_to (lst2 := [(1, .int (nI (q - ((u + 1))) - 1)), (0, .ref (x_b G + 175))]) (st2 := []) (d2 := x_r d 176 (g_lv (d 176) q ((u + 1)))) rfl rfl (by rw [g_lv, g_lv1, if_neg h23]) ?_
          exact ih (u + 1) (by omega) (by omega) 
        · skip
          refine a_aload_n C dX12_mothsLeave_26 1 rfl ?_
          refine a_bipush C dX12_mothsLeave_27 (v := 62) (by decide) ?_
          refine a_iload_n C dX12_mothsLeave_29 0 rfl ?_
          refine a_bipush C dX12_mothsLeave_30 (v := 6) (by decide) ?_
          refine a_callV C (k := 175) (As := [.int 62, .int (nI (q - 1 - u)), .int 6]) (rest := []) (c_M_closesGap l G (x_r d 176 (g_lv (d 176) q u)) 62 (q - 1 - u) 6 (by omega) (by omega)) (cwV 3 C.1.2.2.2.2 gX12_mothsLeave_X12_closesGap rfl rfl rfl (by decide +kernel) ⟨Nat.le_of_ble_eq_true rfl, Nat.le_of_ble_eq_true rfl⟩) x_k175 (q := (RX12, TX12, 16)) rfl rfl rfl rfl (Nat.le_of_ble_eq_true rfl) dX12_mothsLeave_32 ⟨Nat.le_of_ble_eq_true rfl, Nat.le_of_ble_eq_true rfl⟩ ?_
          refine a_aload_n C dX12_mothsLeave_35 1 rfl ?_
          refine a_bipush C dX12_mothsLeave_36 (v := 68) (by decide) ?_
          refine a_iload_n C dX12_mothsLeave_38 0 rfl ?_
          refine a_bipush C dX12_mothsLeave_39 (v := 6) (by decide) ?_
          refine a_callV C (k := 175) (As := [.int 68, .int (nI (q - 1 - u)), .int 6]) (rest := []) (c_M_closesGap l G (x_r (x_r d 176 (g_lv (d 176) q u)) 176 (g_cgp ((x_r d 176 (g_lv (d 176) q u)) 176) 62 (q - 1 - u) 6)) 68 (q - 1 - u) 6 (by omega) (by omega)) (cwV 3 C.1.2.2.2.2 gX12_mothsLeave_X12_closesGap rfl rfl rfl (by decide +kernel) ⟨Nat.le_of_ble_eq_true rfl, Nat.le_of_ble_eq_true rfl⟩) x_k175 (q := (RX12, TX12, 16)) rfl rfl rfl rfl (Nat.le_of_ble_eq_true rfl) dX12_mothsLeave_41 ⟨Nat.le_of_ble_eq_true rfl, Nat.le_of_ble_eq_true rfl⟩ ?_
          refine a_aload_n C dX12_mothsLeave_44 1 rfl ?_
          refine a_bipush C dX12_mothsLeave_45 (v := 74) (by decide) ?_
          refine a_iload_n C dX12_mothsLeave_47 0 rfl ?_
          refine a_bipush C dX12_mothsLeave_48 (v := 6) (by decide) ?_
          refine a_callV C (k := 175) (As := [.int 74, .int (nI (q - 1 - u)), .int 6]) (rest := []) (c_M_closesGap l G (x_r (x_r (x_r d 176 (g_lv (d 176) q u)) 176 (g_cgp ((x_r d 176 (g_lv (d 176) q u)) 176) 62 (q - 1 - u) 6)) 176 (g_cgp ((x_r (x_r d 176 (g_lv (d 176) q u)) 176 (g_cgp ((x_r d 176 (g_lv (d 176) q u)) 176) 62 (q - 1 - u) 6)) 176) 68 (q - 1 - u) 6)) 74 (q - 1 - u) 6 (by omega) (by omega)) (cwV 3 C.1.2.2.2.2 gX12_mothsLeave_X12_closesGap rfl rfl rfl (by decide +kernel) ⟨Nat.le_of_ble_eq_true rfl, Nat.le_of_ble_eq_true rfl⟩) x_k175 (q := (RX12, TX12, 16)) rfl rfl rfl rfl (Nat.le_of_ble_eq_true rfl) dX12_mothsLeave_50 ⟨Nat.le_of_ble_eq_true rfl, Nat.le_of_ble_eq_true rfl⟩ ?_
          refine a_aload_n C dX12_mothsLeave_53 1 rfl ?_
          refine a_getR C (k := 175) iX12 x_k175 rfl (j := 0) rfl (by decide) (by decide +kernel) dX12_mothsLeave_54 ?_
          refine a_iconst C dX12_mothsLeave_57 (v := 1) (by decide) ?_
          refine a_dup2 C dX12_mothsLeave_58 rfl rfl ?_
          refine a_ialdN C (k := 176) x_k176 (i := 1) rfl (by decide) (by first | decide | omega) dX12_mothsLeave_59 ?_
          refine a_iconst C dX12_mothsLeave_60 (v := 1) (by decide) ?_
          refine a_isub C dX12_mothsLeave_61 ?_
          refine a_iastN C (k := 176) x_k176 (i := 1) rfl (by decide) (by first | decide | omega) dX12_mothsLeave_62 ?_
          refine a_iinc C dX12_mothsLeave_63 0 rfl (v := (nI (q - (u + 1)) - 1)) x_pr3 (by decide) (lst2 := [(1, .int (nI (q - (u + 1)) - 1)), (0, .ref (x_b G + 175))]) rfl ?_
          refine a_goto C dX12_mothsLeave_66 (tgt := 9) (by decide) ?_
          refine a_sub (lst2 := [(1, .int (nI (q - (u + 1)) - 1)), (0, .ref (x_b G + 175))]) [0, 1] rfl ?_
          refine a_to (lst2 := [(1, .int (nI (q - ((u + 1))) - 1)), (0, .ref (x_b G + 175))]) (st2 := []) (d2 := x_r d 176 (g_lv (d 176) q ((u + 1)))) rfl rfl (by rw [g_lv, g_lv1, if_pos h23]; simp only [x_p, x_r_r, x_r_same]; rw [g_cgp_out _ (by omega) (by omega), g_cgp_out _ (by omega) (by omega), g_cgp_out _ (by omega) (by omega)]) ?_
          exact ih (u + 1) (by omega) (by omega) 
  refine a_sub (lst2 := [(1, .int (nI (q - 0) - 1)), (0, .ref (x_b G + 175))]) [0, 1] rfl ?_
  refine a_toD (d2 := x_r d 176 (g_lv (d 176) q 0)) (x_r_id d 176) ?_
  exact L9 (q + 1) 0 (by omega) (by omega)

def g_n1 (z : Nat → Int32) (b : Nat → Bool) (k : Nat) : Nat → Int32 := fun j => if 38 ≤ j ∧ j < 38 + k then (if b (j - 38) = true then z j - z (22 + (j - 38)) else z j) else if 46 ≤ j ∧ j < 46 + k then (if b (j - 46) = true then z j - 1 else z j) else z j
def g_cn (b : Nat → Bool) : Nat → Int32
  | 0 => 0
  | k + 1 => if b k = true then g_cn b k + 1 else g_cn b k
theorem g_n1_out {z : Nat → Int32} {b : Nat → Bool} {k j : Nat} (h : j < 38 ∨ 38 + k ≤ j) (h2 : j < 46 ∨ 46 + k ≤ j) : g_n1 z b k j = z j := by
  simp only [g_n1]
  rw [if_neg (by omega), if_neg (by omega)]
theorem g_n1_0 (z : Nat → Int32) (b : Nat → Bool) : g_n1 z b 0 = z := by
  funext j
  exact g_n1_out (by omega) (by omega)
theorem g_n1_s {z : Nat → Int32} {b : Nat → Bool} {k : Nat} (hk : k < 8) (h : b k = true) : upd (upd (g_n1 z b k) (38 + k) (z (38 + k) - z (22 + k))) (46 + k) (z (46 + k) - 1) = g_n1 z b (k + 1) := by
  funext j
  simp only [upd, g_n1]
  by_cases h1 : j = 46 + k
  · subst h1
    rw [if_pos rfl, if_neg (by omega), if_pos (by omega), show 46 + k - 46 = k by omega, if_pos h]
  · rw [if_neg h1]
    by_cases h2 : j = 38 + k
    · subst h2
      rw [if_pos rfl, if_pos (by omega), show 38 + k - 38 = k by omega, if_pos h]
    · rw [if_neg h2]
      by_cases h3 : 38 ≤ j ∧ j < 38 + k
      · rw [if_pos h3, if_pos (show 38 ≤ j ∧ j < 38 + (k + 1) by omega)]
      · rw [if_neg h3, if_neg (show ¬ (38 ≤ j ∧ j < 38 + (k + 1)) by omega)]
        by_cases h4 : 46 ≤ j ∧ j < 46 + k
        · rw [if_pos h4, if_pos (show 46 ≤ j ∧ j < 46 + (k + 1) by omega)]
        · rw [if_neg h4, if_neg (show ¬ (46 ≤ j ∧ j < 46 + (k + 1)) by omega)]
theorem g_n1_n {z : Nat → Int32} {b : Nat → Bool} {k : Nat} (hk : k < 8) (h : ¬ b k = true) : g_n1 z b k = g_n1 z b (k + 1) := by
  funext j
  simp only [g_n1]
  by_cases h1 : j = 46 + k
  · subst h1
    rw [if_neg (by omega), if_neg (by omega), if_neg (by omega), if_pos (by omega), show 46 + k - 46 = k by omega, if_neg h]
  · by_cases h2 : j = 38 + k
    · subst h2
      rw [if_neg (by omega), if_neg (by omega), if_pos (by omega), show 38 + k - 38 = k by omega, if_neg h]
    · by_cases h3 : 38 ≤ j ∧ j < 38 + k
      · rw [if_pos h3, if_pos (show 38 ≤ j ∧ j < 38 + (k + 1) by omega)]
      · rw [if_neg h3, if_neg (show ¬ (38 ≤ j ∧ j < 38 + (k + 1)) by omega)]
        by_cases h4 : 46 ≤ j ∧ j < 46 + k
        · rw [if_pos h4, if_pos (show 46 ≤ j ∧ j < 46 + (k + 1) by omega)]
        · rw [if_neg h4, if_neg (show ¬ (46 ≤ j ∧ j < 46 + (k + 1)) by omega)]
theorem g_acts_out {z : Nat → Int32} {b : Nat → Bool} {j n q : Nat} (h : j < 38 ∨ 46 ≤ j) (h1 : j < 68 ∨ 80 ≤ j) (h8 : n ≤ 8) (h6 : q ≤ 6) (hz : ∀ k, k < q → z (62 + k) - 1 = -1 ∨ ∃ w, w < n ∧ z (62 + k) - 1 = nI w) : ∀ k, k ≤ q → g_acts z b k j = z j
  | 0, _ => rfl
  | k + 1, hk => by
    have hw : (z (62 + k) - 1).toNatClampNeg < 8 := by
      rcases hz k (by omega) with e | ⟨w, hw, e⟩
      · rw [e]; decide
      · rw [e, nI_clamp (by omega)]; omega
    rw [g_acts, g_act_out h hw h1 (by omega), g_acts_out h h1 h8 h6 hz k (by omega)]
def g_tr (x t0 : Int32) : Nat → Int32
  | 0 => t0
  | s + 1 => g_tr x t0 s + (if (x >>> (nI s &&& 31)) &&& 1 = 1 then 0 else 3)
def g_ni (z : Nat → Int32) (n q : Nat) : Nat → Int32 := g_lv (g_acts (g_n1 z (g_rdy z) n) (g_rdy z) q) q q
def g_ngt (z : Nat → Int32) (n q : Nat) : Nat → Int32 := upd (upd (g_ni z n q) 5 (g_tr (g_lt (g_rdy z) (g_row z 6) n) (z 5) 4)) 2 (z 2 + 1)
theorem x_upd2 (z : Nat → Int32) (j : Nat) (u v : Int32) : upd (upd z j u) j v = upd z j v := by
  funext k
  simp only [upd]
  by_cases h : k = j
  · rw [if_pos h, if_pos h]
  · rw [if_neg h, if_neg h, if_neg h]
theorem x_updid {z : Nat → Int32} {j : Nat} {u : Int32} (h : z j = u) : z = upd z j u := by
  subst h
  funext k
  simp only [upd]
  by_cases q : k = j
  · rw [if_pos q, q]
  · rw [if_neg q]
theorem x_upd_ne {z : Nat → Int32} {j k : Nat} {u : Int32} (h : k ≠ j) : upd z j u k = z k := by simp [upd, h]
theorem x_upd_at {z : Nat → Int32} {j : Nat} {u : Int32} : upd z j u j = u := by simp [upd]
set_option maxHeartbeats 1000000 in
set_option maxRecDepth 100000 in
theorem c_M_passesNight (l : Launch) (G : xG) (d : xd) (n : Nat) (hn : d 176 0 = nI n) (h8 : n ≤ 8) (q : Nat) (hq : d 176 1 = nI q) (h6 : q ≤ 6) (hcr : ∀ k, k < q → d 176 (62 + k) - 1 = -1 ∨ ∃ w, w < n ∧ d 176 (62 + k) - 1 = nI w) : x_M G l yX12_passesNight wsX12_passesNight 4 0 0 [.ref (x_b G + 175)] d (some (.int (g_cn (g_rdy (d 176)) n))) (g_ok d (g_ngt (d 176) n q)) := by
  have hcir : ∀ k, k < q → (g_n1 (d 176) (g_rdy (d 176)) n) (62 + k) - 1 = -1 ∨ ∃ w, w < n ∧ (g_n1 (d 176) (g_rdy (d 176)) n) (62 + k) - 1 = nI w := fun k hk => by rw [g_n1_out (by omega) (by omega)]; exact hcr k hk
  have iX12 : ∀ w ∈ u_ws RX12 TX12 16, w ∈ wsX12_passesNight := by decide +kernel
  refine x_start (cc := cX12_passesNight) (maxL := 5) (ret := (some .int)) (own := RX12) (by decide) rfl rfl (Nat.le_of_ble_eq_true rfl) (lst := [(0, .ref (x_b G + 175))]) rfl ?_
  intro p e s m args below meth c C hr hlocks
  refine a_aload_n C dX12_passesNight_0 0 rfl ?_
  refine a_callV C (k := 175) (As := []) (rest := []) (c_M_burningLamps l G d n hn h8) (cwV 0 C.1.2.2.2.2 gX12_passesNight_X12_burningLamps rfl rfl rfl (by decide +kernel) ⟨Nat.le_of_ble_eq_true rfl, Nat.le_of_ble_eq_true rfl⟩) x_k175 (q := (RX12, TX12, 16)) rfl rfl rfl rfl (Nat.le_of_ble_eq_true rfl) dX12_passesNight_1 ⟨Nat.le_of_ble_eq_true rfl, Nat.le_of_ble_eq_true rfl⟩ ?_
  refine a_istore_n C dX12_passesNight_4 (by decide) (lst2 := [(1, .int (g_bt (g_rdy (d 176)) n)), (0, .ref (x_b G + 175))]) rfl ?_
  refine a_iconst C dX12_passesNight_5 (v := 0) (by decide) ?_
  refine a_istore_n C dX12_passesNight_6 (by decide) (lst2 := [(2, .int 0), (1, .int (g_bt (g_rdy (d 176)) n)), (0, .ref (x_b G + 175))]) rfl ?_
  refine a_iconst C dX12_passesNight_7 (v := 0) (by decide) ?_
  refine a_istore_n C dX12_passesNight_8 (by decide) (lst2 := [(3, .int 0), (2, .int 0), (1, .int (g_bt (g_rdy (d 176)) n)), (0, .ref (x_b G + 175))]) rfl ?_
  refine a_iconst C dX12_passesNight_9 (v := 0) (by decide) ?_
  refine a_istore C dX12_passesNight_10 (by decide) (lst2 := [(4, .int 0), (3, .int 0), (2, .int 0), (1, .int (g_bt (g_rdy (d 176)) n)), (0, .ref (x_b G + 175))]) rfl ?_
  have L12 : ∀ (j k : Nat), k ≤ n → n < k + j → Ab G p l e (x_rm 4 0 0) s m args below meth c 5 0 0 (MQ below (x_Q G (some (.int (g_cn (g_rdy (d 176)) n))) (g_ok d (g_ngt (d 176) n q))) args s 0 0 (x_A G)) 12 [(4, .int (nI k)), (3, .int (g_cn (g_rdy (d 176)) k)), (2, .int (g_lt (g_rdy (d 176)) (g_row (d 176) 6) k)), (1, .int (g_bt (g_rdy (d 176)) n)), (0, .ref (x_b G + 175))] [] (x_r d 176 (g_n1 (d 176) (g_rdy (d 176)) k)) := by
    intro j
    induction j with
    | zero => intro k h1 h2; exact absurd h2 (by omega)
    | succ j ih1 =>
      intro k hk hj 
      refine a_iload C dX12_passesNight_12 0 rfl ?_
      refine a_aload_n C dX12_passesNight_14 4 rfl ?_
      refine a_getR C (k := 175) iX12 x_k175 rfl (j := 0) rfl (by decide) (by decide +kernel) dX12_passesNight_15 ?_
      refine a_iconst C dX12_passesNight_18 (v := 0) (by decide) ?_
      refine a_ialdN C (k := 176) x_k176 (i := 0) rfl (by decide) (by first | decide | omega) dX12_passesNight_19 ?_
      refine a_top (y := (nI n)) (by rw [x_r_same, g_n1_out (by omega) (by omega)]; exact hn) ?_
      refine a_icmp_ge C dX12_passesNight_20 (tgt := 94) (by decide) (fun h20 => ?_) (fun h20 => ?_)
      · skip
        have e := x_ge h20 hk (by omega)
        have e9 := e.symm
        subst e9
        clear e
        refine a_iconst C dX12_passesNight_94 (v := 0) (by decide) ?_
        refine a_istore C dX12_passesNight_95 (by decide) (lst2 := [(4, .int 0), (3, .int (g_cn (g_rdy (d 176)) n)), (2, .int (g_lt (g_rdy (d 176)) (g_row (d 176) 6) n)), (1, .int (g_bt (g_rdy (d 176)) n)), (0, .ref (x_b G + 175))]) rfl ?_
        have L97 : ∀ (j k : Nat), k ≤ q → q < k + j → Ab G p l e (x_rm 4 0 0) s m args below meth c 5 0 0 (MQ below (x_Q G (some (.int (g_cn (g_rdy (d 176)) n))) (g_ok d (g_ngt (d 176) n q))) args s 0 0 (x_A G)) 97 [(4, .int (nI k)), (3, .int (g_cn (g_rdy (d 176)) n)), (2, .int (g_lt (g_rdy (d 176)) (g_row (d 176) 6) n)), (1, .int (g_bt (g_rdy (d 176)) n)), (0, .ref (x_b G + 175))] [] (x_r d 176 (g_acts (g_n1 (d 176) (g_rdy (d 176)) n) (g_rdy (d 176)) k)) := by
          intro j
          induction j with
          | zero => intro k h1 h2; exact absurd h2 (by omega)
          | succ j ih3 =>
            intro k hk3 hj 
            refine a_iload C dX12_passesNight_97 0 rfl ?_
            refine a_aload_n C dX12_passesNight_99 4 rfl ?_
            refine a_getR C (k := 175) iX12 x_k175 rfl (j := 0) rfl (by decide) (by decide +kernel) dX12_passesNight_100 ?_
            refine a_iconst C dX12_passesNight_103 (v := 1) (by decide) ?_
            refine a_ialdN C (k := 176) x_k176 (i := 1) rfl (by decide) (by first | decide | omega) dX12_passesNight_104 ?_
            refine a_top (y := (nI q)) (by rw [x_r_same, g_acts_out (by omega) (by omega) h8 h6 hcir k (by omega), g_n1_out (by omega) (by omega)]; exact hq) ?_
            refine a_icmp_ge C dX12_passesNight_105 (tgt := 121) (by decide) (fun h105 => ?_) (fun h105 => ?_)
            · skip
              have e := x_ge h105 hk3 (by omega)
              have e9 := e.symm
              subst e9
              clear e
              refine a_aload_n C dX12_passesNight_121 4 rfl ?_
              refine a_callV C (k := 175) (As := []) (rest := []) (c_M_mothsLeave l G (x_r d 176 (g_acts (g_n1 (d 176) (g_rdy (d 176)) n) (g_rdy (d 176)) q)) q (by rw [x_r_same, g_acts_out (by omega) (by omega) h8 h6 hcir q (by omega), g_n1_out (by omega) (by omega)]; exact hq) h6) (cwV 0 C.1.2.2.2.2 gX12_passesNight_X12_mothsLeave rfl rfl rfl (by decide +kernel) ⟨Nat.le_of_ble_eq_true rfl, Nat.le_of_ble_eq_true rfl⟩) x_k175 (q := (RX12, TX12, 16)) rfl rfl rfl rfl (Nat.le_of_ble_eq_true rfl) dX12_passesNight_122 ⟨Nat.le_of_ble_eq_true rfl, Nat.le_of_ble_eq_true rfl⟩ ?_
              refine a_iconst C dX12_passesNight_125 (v := 0) (by decide) ?_
              refine a_istore C dX12_passesNight_126 (by decide) (lst2 := [(4, .int 0), (3, .int (g_cn (g_rdy (d 176)) n)), (2, .int (g_lt (g_rdy (d 176)) (g_row (d 176) 6) n)), (1, .int (g_bt (g_rdy (d 176)) n)), (0, .ref (x_b G + 175))]) rfl ?_
              have L128 : ∀ (j k : Nat), k ≤ 4 → 4 < k + j → Ab G p l e (x_rm 4 0 0) s m args below meth c 5 0 0 (MQ below (x_Q G (some (.int (g_cn (g_rdy (d 176)) n))) (g_ok d (g_ngt (d 176) n q))) args s 0 0 (x_A G)) 128 [(4, .int (nI k)), (3, .int (g_cn (g_rdy (d 176)) n)), (2, .int (g_lt (g_rdy (d 176)) (g_row (d 176) 6) n)), (1, .int (g_bt (g_rdy (d 176)) n)), (0, .ref (x_b G + 175))] [] (x_r d 176 (upd (g_ni (d 176) n q) 5 (g_tr (g_lt (g_rdy (d 176)) (g_row (d 176) 6) n) (d 176 5) k))) := by
                intro j
                induction j with
                | zero => intro k h1 h2; exact absurd h2 (by omega)
                | succ j ih4 =>
                  intro k hk4 hj 
                  refine a_iload C dX12_passesNight_128 0 rfl ?_
                  refine a_iconst C dX12_passesNight_130 (v := 4) (by decide) ?_
                  refine a_icmp_ge C dX12_passesNight_131 (tgt := 164) (by decide) (fun h131 => ?_) (fun h131 => ?_)
                  · skip
                    have e := x_ge (n := 4) h131 hk4 (by omega)
                    have e9 := e.symm
                    subst e9
                    clear e
                    refine a_aload_n C dX12_passesNight_164 4 rfl ?_
                    refine a_getR C (k := 175) iX12 x_k175 rfl (j := 0) rfl (by decide) (by decide +kernel) dX12_passesNight_165 ?_
                    refine a_iconst C dX12_passesNight_168 (v := 2) (by decide) ?_
                    refine a_dup2 C dX12_passesNight_169 rfl rfl ?_
                    refine a_ialdN C (k := 176) x_k176 (i := 2) rfl (by decide) (by first | decide | omega) dX12_passesNight_170 ?_
                    refine a_top (y := (d 176 2)) (by rw [x_r_same, x_upd_ne (by omega)]; unfold g_ni; rw [g_lv_out (by omega) (by omega), g_acts_out (by omega) (by omega) h8 h6 hcir q (by omega), g_n1_out (by omega) (by omega)]) ?_
                    refine a_iconst C dX12_passesNight_171 (v := 1) (by decide) ?_
                    refine a_iadd C dX12_passesNight_172 ?_
                    refine a_iastN C (k := 176) x_k176 (i := 2) rfl (by decide) (by first | decide | omega) dX12_passesNight_173 ?_
                    refine a_aload_n C dX12_passesNight_174 4 rfl ?_
                    refine a_iload_n C dX12_passesNight_175 1 rfl ?_
                    refine a_callV C (k := 175) (As := [.int (g_cn (g_rdy (d 176)) n)]) (rest := []) (c_M_done l G (x_p (x_r d 176 (upd (g_ni (d 176) n q) 5 (g_tr (g_lt (g_rdy (d 176)) (g_row (d 176) 6) n) (d 176 5) 4))) 176 2 ((d 176 2) + 1)) (g_cn (g_rdy (d 176)) n)) (cwV 1 C.1.2.2.2.2 gX12_passesNight_X12_done rfl rfl rfl (by decide +kernel) ⟨Nat.le_of_ble_eq_true rfl, Nat.le_of_ble_eq_true rfl⟩) x_k175 (q := (RX12, TX12, 16)) rfl rfl rfl rfl (Nat.le_of_ble_eq_true rfl) dX12_passesNight_176 ⟨Nat.le_of_ble_eq_true rfl, Nat.le_of_ble_eq_true rfl⟩ ?_
                    exact a_iret C hlocks hr dX12_passesNight_179 rfl (by simp only [g_ok, g_ngt, x_p, x_r_r, x_r_same])
                  · skip
                    have hlt4 := x_nge (n := 4) h131 hk4
                    refine a_aload_n C dX12_passesNight_134 4 rfl ?_
                    refine a_getR C (k := 175) iX12 x_k175 rfl (j := 0) rfl (by decide) (by decide +kernel) dX12_passesNight_135 ?_
                    refine a_iconst C dX12_passesNight_138 (v := 5) (by decide) ?_
                    refine a_dup2 C dX12_passesNight_139 rfl rfl ?_
                    refine a_ialdN C (k := 176) x_k176 (i := 5) rfl (by decide) (by first | decide | omega) dX12_passesNight_140 ?_
                    refine a_top (y := (g_tr (g_lt (g_rdy (d 176)) (g_row (d 176) 6) n) (d 176 5) k)) (by rw [x_r_same, x_upd_at]) ?_
                    refine a_iload_n C dX12_passesNight_141 2 rfl ?_
                    refine a_iload C dX12_passesNight_142 0 rfl ?_
                    refine a_ishr C dX12_passesNight_144 ?_
                    refine a_iconst C dX12_passesNight_145 (v := 1) (by decide) ?_
                    refine a_iand C dX12_passesNight_146 ?_
                    refine a_iconst C dX12_passesNight_147 (v := 1) (by decide) ?_
                    refine a_icmp_ne C dX12_passesNight_148 (tgt := 155) (by decide) (fun h148 => ?_) (fun h148 => ?_)
                    · skip
                      refine a_iconst C dX12_passesNight_155 (v := 3) (by decide) ?_
                      refine a_iadd C dX12_passesNight_156 ?_
                      refine a_iastN C (k := 176) x_k176 (i := 5) rfl (by decide) (by first | decide | omega) dX12_passesNight_157 ?_
                      refine a_iinc C dX12_passesNight_158 0 rfl (v := (nI (k + 1))) (x_inc k) (by decide) (lst2 := [(4, .int (nI (k + 1))), (3, .int (g_cn (g_rdy (d 176)) n)), (2, .int (g_lt (g_rdy (d 176)) (g_row (d 176) 6) n)), (1, .int (g_bt (g_rdy (d 176)) n)), (0, .ref (x_b G + 175))]) rfl ?_
                      refine a_goto C dX12_passesNight_161 (tgt := 128) (by decide) ?_
                      refine a_sub (lst2 := [(4, .int (nI (k + 1))), (3, .int (g_cn (g_rdy (d 176)) n)), (2, .int (g_lt (g_rdy (d 176)) (g_row (d 176) 6) n)), (1, .int (g_bt (g_rdy (d 176)) n)), (0, .ref (x_b G + 175))]) [0, 1, 2, 3, 4] rfl ?_
                      refine a_to (lst2 := [(4, .int (nI ((k + 1)))), (3, .int (g_cn (g_rdy (d 176)) n)), (2, .int (g_lt (g_rdy (d 176)) (g_row (d 176) 6) n)), (1, .int (g_bt (g_rdy (d 176)) n)), (0, .ref (x_b G + 175))]) (st2 := []) (d2 := x_r d 176 (upd (g_ni (d 176) n q) 5 (g_tr (g_lt (g_rdy (d 176)) (g_row (d 176) 6) n) (d 176 5) ((k + 1))))) rfl rfl (by rw [x_p_r2 (x_upd2 _ _ _ _), g_tr, if_neg h148]) ?_
                      exact ih4 (k + 1) (by omega) (by omega) 
                    · skip
                      refine a_iconst C dX12_passesNight_151 (v := 0) (by decide) ?_
                      refine a_goto C dX12_passesNight_152 (tgt := 156) (by decide) ?_
                      refine a_iadd C dX12_passesNight_156 ?_
                      refine a_iastN C (k := 176) x_k176 (i := 5) rfl (by decide) (by first | decide | omega) dX12_passesNight_157 ?_
                      refine a_iinc C dX12_passesNight_158 0 rfl (v := (nI (k + 1))) (x_inc k) (by decide) (lst2 := [(4, .int (nI (k + 1))), (3, .int (g_cn (g_rdy (d 176)) n)), (2, .int (g_lt (g_rdy (d 176)) (g_row (d 176) 6) n)), (1, .int (g_bt (g_rdy (d 176)) n)), (0, .ref (x_b G + 175))]) rfl ?_
                      refine a_goto C dX12_passesNight_161 (tgt := 128) (by decide) ?_
                      refine a_sub (lst2 := [(4, .int (nI (k + 1))), (3, .int (g_cn (g_rdy (d 176)) n)), (2, .int (g_lt (g_rdy (d 176)) (g_row (d 176) 6) n)), (1, .int (g_bt (g_rdy (d 176)) n)), (0, .ref (x_b G + 175))]) [0, 1, 2, 3, 4] rfl ?_
                      refine a_to (lst2 := [(4, .int (nI ((k + 1)))), (3, .int (g_cn (g_rdy (d 176)) n)), (2, .int (g_lt (g_rdy (d 176)) (g_row (d 176) 6) n)), (1, .int (g_bt (g_rdy (d 176)) n)), (0, .ref (x_b G + 175))]) (st2 := []) (d2 := x_r d 176 (upd (g_ni (d 176) n q) 5 (g_tr (g_lt (g_rdy (d 176)) (g_row (d 176) 6) n) (d 176 5) ((k + 1))))) rfl rfl (by rw [x_p_r2 (x_upd2 _ _ _ _), g_tr, if_pos h148]) ?_
                      exact ih4 (k + 1) (by omega) (by omega) 
              refine a_sub (lst2 := [(4, .int 0), (3, .int (g_cn (g_rdy (d 176)) n)), (2, .int (g_lt (g_rdy (d 176)) (g_row (d 176) 6) n)), (1, .int (g_bt (g_rdy (d 176)) n)), (0, .ref (x_b G + 175))]) [0, 1, 2, 3, 4] rfl ?_
              refine a_toD (d2 := x_r d 176 (upd (g_ni (d 176) n q) 5 (g_tr (g_lt (g_rdy (d 176)) (g_row (d 176) 6) n) (d 176 5) 0))) (by rw [x_r_same, x_r_r]; exact congrArg (x_r d 176) (x_updid (by rw [g_lv_out (by omega) (by omega), g_acts_out (by omega) (by omega) h8 h6 hcir q (by omega), g_n1_out (by omega) (by omega)]; rfl))) ?_
              exact L128 5 0 (by omega) (by omega)
            · skip
              have hlt3 := x_nge h105 hk3
              refine a_aload_n C dX12_passesNight_108 4 rfl ?_
              refine a_iload C dX12_passesNight_109 0 rfl ?_
              refine a_iload_n C dX12_passesNight_111 3 rfl ?_
              refine a_callV C (k := 175) (As := [.int (nI k), .int (g_bt (g_rdy (d 176)) n)]) (rest := []) (c_M_mothActs l G (x_r d 176 (g_acts (g_n1 (d 176) (g_rdy (d 176)) n) (g_rdy (d 176)) k)) k (by omega) (g_bt (g_rdy (d 176)) n) (g_n1 (d 176) (g_rdy (d 176)) n) (g_rdy (d 176)) (by rw [x_r_same, g_acts_out (by omega) (by omega) h8 h6 hcir k (by omega)]) ((hcir k (by omega)).imp id (fun y => y.elim fun w y => ⟨w, by omega, (g_bt_on (g_rdy (d 176)) h8 (by omega)).trans ⟨fun z => z.2, fun z => ⟨y.1, z⟩⟩, y.2⟩))) (cwV 2 C.1.2.2.2.2 gX12_passesNight_X12_mothActs rfl rfl rfl (by decide +kernel) ⟨Nat.le_of_ble_eq_true rfl, Nat.le_of_ble_eq_true rfl⟩) x_k175 (q := (RX12, TX12, 16)) rfl rfl rfl rfl (Nat.le_of_ble_eq_true rfl) dX12_passesNight_112 ⟨Nat.le_of_ble_eq_true rfl, Nat.le_of_ble_eq_true rfl⟩ ?_
              refine a_iinc C dX12_passesNight_115 0 rfl (v := (nI (k + 1))) (x_inc k) (by decide) (lst2 := [(4, .int (nI (k + 1))), (3, .int (g_cn (g_rdy (d 176)) n)), (2, .int (g_lt (g_rdy (d 176)) (g_row (d 176) 6) n)), (1, .int (g_bt (g_rdy (d 176)) n)), (0, .ref (x_b G + 175))]) rfl ?_
              refine a_goto C dX12_passesNight_118 (tgt := 97) (by decide) ?_
              refine a_sub (lst2 := [(4, .int (nI (k + 1))), (3, .int (g_cn (g_rdy (d 176)) n)), (2, .int (g_lt (g_rdy (d 176)) (g_row (d 176) 6) n)), (1, .int (g_bt (g_rdy (d 176)) n)), (0, .ref (x_b G + 175))]) [0, 1, 2, 3, 4] rfl ?_
              refine a_to (lst2 := [(4, .int (nI ((k + 1)))), (3, .int (g_cn (g_rdy (d 176)) n)), (2, .int (g_lt (g_rdy (d 176)) (g_row (d 176) 6) n)), (1, .int (g_bt (g_rdy (d 176)) n)), (0, .ref (x_b G + 175))]) (st2 := []) (d2 := x_r d 176 (g_acts (g_n1 (d 176) (g_rdy (d 176)) n) (g_rdy (d 176)) ((k + 1)))) rfl rfl (by rw [x_r_same, x_r_r]; rfl) ?_
              exact ih3 (k + 1) (by omega) (by omega) 
        refine a_sub (lst2 := [(4, .int 0), (3, .int (g_cn (g_rdy (d 176)) n)), (2, .int (g_lt (g_rdy (d 176)) (g_row (d 176) 6) n)), (1, .int (g_bt (g_rdy (d 176)) n)), (0, .ref (x_b G + 175))]) [0, 1, 2, 3, 4] rfl ?_
        exact L97 (q + 1) 0 (by omega) (by omega)
      · skip
        have hlt := x_nge h20 hk
        refine a_iload_n C dX12_passesNight_23 3 rfl ?_
        refine a_iload C dX12_passesNight_24 0 rfl ?_
        refine a_ishr C dX12_passesNight_26 ?_
        refine a_iconst C dX12_passesNight_27 (v := 1) (by decide) ?_
        refine a_iand C dX12_passesNight_28 ?_
        refine a_iconst C dX12_passesNight_29 (v := 1) (by decide) ?_
        refine a_icmp_ne C dX12_passesNight_30 (tgt := 88) (by decide) (fun h30 => ?_) (fun h30 => ?_)
        · skip
          refine a_iinc C dX12_passesNight_88 0 rfl (v := (nI (k + 1))) (x_inc k) (by decide) (lst2 := [(4, .int (nI (k + 1))), (3, .int (g_cn (g_rdy (d 176)) k)), (2, .int (g_lt (g_rdy (d 176)) (g_row (d 176) 6) k)), (1, .int (g_bt (g_rdy (d 176)) n)), (0, .ref (x_b G + 175))]) rfl ?_
          refine a_goto C dX12_passesNight_91 (tgt := 12) (by decide) ?_
          refine a_sub (lst2 := [(4, .int (nI (k + 1))), (3, .int (g_cn (g_rdy (d 176)) k)), (2, .int (g_lt (g_rdy (d 176)) (g_row (d 176) 6) k)), (1, .int (g_bt (g_rdy (d 176)) n)), (0, .ref (x_b G + 175))]) [0, 1, 2, 3, 4] rfl ?_
          refine a_to (lst2 := [(4, .int (nI ((k + 1)))), (3, .int (g_cn (g_rdy (d 176)) ((k + 1)))), (2, .int (g_lt (g_rdy (d 176)) (g_row (d 176) 6) ((k + 1)))), (1, .int (g_bt (g_rdy (d 176)) n)), (0, .ref (x_b G + 175))]) (st2 := []) (d2 := x_r d 176 (g_n1 (d 176) (g_rdy (d 176)) ((k + 1)))) (by rw [g_cn, g_lt, if_neg (fun z => h30 ((g_bt_on (g_rdy (d 176)) h8 (by omega)).mpr ⟨hlt, z⟩)), if_neg (fun z => h30 ((g_bt_on (g_rdy (d 176)) h8 (by omega)).mpr ⟨hlt, z⟩))]) rfl (by rw [g_n1_n (by omega) (fun z => h30 ((g_bt_on (g_rdy (d 176)) h8 (by omega)).mpr ⟨hlt, z⟩))]) ?_
          exact ih1 (k + 1) (by omega) (by omega) 
        · skip
          refine a_aload_n C dX12_passesNight_33 4 rfl ?_
          refine a_getR C (k := 175) iX12 x_k175 rfl (j := 0) rfl (by decide) (by decide +kernel) dX12_passesNight_34 ?_
          refine a_bipush C dX12_passesNight_37 (v := 38) (by decide) ?_
          refine a_iload C dX12_passesNight_39 0 rfl ?_
          refine a_iadd C dX12_passesNight_41 ?_
          refine a_dup2 C dX12_passesNight_42 rfl rfl ?_
          refine a_ialdN C (k := 176) x_k176 (i := 38 + k) (x_add2 (a := 38) (b := k) rfl rfl) (by omega) (by first | decide | omega) dX12_passesNight_43 ?_
          refine a_top (y := (d 176 (38 + k))) (by rw [x_r_same, g_n1_out (by omega) (by omega)]) ?_
          refine a_aload_n C dX12_passesNight_44 4 rfl ?_
          refine a_getR C (k := 175) iX12 x_k175 rfl (j := 0) rfl (by decide) (by decide +kernel) dX12_passesNight_45 ?_
          refine a_bipush C dX12_passesNight_48 (v := 22) (by decide) ?_
          refine a_iload C dX12_passesNight_50 0 rfl ?_
          refine a_iadd C dX12_passesNight_52 ?_
          refine a_ialdN C (k := 176) x_k176 (i := 22 + k) (x_add2 (a := 22) (b := k) rfl rfl) (by omega) (by first | decide | omega) dX12_passesNight_53 ?_
          refine a_top (y := (d 176 (22 + k))) (by first | rw [x_r_same, g_n1_out (by omega) (by omega)] | rw [x_p_row (by omega), x_r_same, g_n1_out (by omega) (by omega)]) ?_
          refine a_isub C dX12_passesNight_54 ?_
          refine a_iastN C (k := 176) x_k176 (i := 38 + k) (x_add2 (a := 38) (b := k) rfl rfl) (by omega) (by first | decide | omega) dX12_passesNight_55 ?_
          refine a_aload_n C dX12_passesNight_56 4 rfl ?_
          refine a_getR C (k := 175) iX12 x_k175 rfl (j := 0) rfl (by decide) (by decide +kernel) dX12_passesNight_57 ?_
          refine a_bipush C dX12_passesNight_60 (v := 46) (by decide) ?_
          refine a_iload C dX12_passesNight_62 0 rfl ?_
          refine a_iadd C dX12_passesNight_64 ?_
          refine a_dup2 C dX12_passesNight_65 rfl rfl ?_
          refine a_ialdN C (k := 176) x_k176 (i := 46 + k) (x_add2 (a := 46) (b := k) rfl rfl) (by omega) (by first | decide | omega) dX12_passesNight_66 ?_
          refine a_top (y := ((x_r d 176 (g_n1 (d 176) (g_rdy (d 176)) k)) 176 (46 + k))) (by first | rw [x_p_row (by omega)] | rfl) ?_
          refine a_top (y := (d 176 (46 + k))) (by rw [x_r_same, g_n1_out (by omega) (by omega)]) ?_
          refine a_iconst C dX12_passesNight_67 (v := 1) (by decide) ?_
          refine a_isub C dX12_passesNight_68 ?_
          refine a_iastN C (k := 176) x_k176 (i := 46 + k) (x_add2 (a := 46) (b := k) rfl rfl) (by omega) (by first | decide | omega) dX12_passesNight_69 ?_
          refine a_iload_n C dX12_passesNight_70 2 rfl ?_
          refine a_iconst C dX12_passesNight_71 (v := 1) (by decide) ?_
          refine a_aload_n C dX12_passesNight_72 4 rfl ?_
          refine a_getR C (k := 175) iX12 x_k175 rfl (j := 0) rfl (by decide) (by decide +kernel) dX12_passesNight_73 ?_
          refine a_bipush C dX12_passesNight_76 (v := 6) (by decide) ?_
          refine a_iload C dX12_passesNight_78 0 rfl ?_
          refine a_iadd C dX12_passesNight_80 ?_
          refine a_ialdN C (k := 176) x_k176 (i := 6 + k) (x_add2 (a := 6) (b := k) rfl rfl) (by omega) (by first | decide | omega) dX12_passesNight_81 ?_
          refine a_top (y := ((x_r d 176 (g_n1 (d 176) (g_rdy (d 176)) k)) 176 (6 + k))) (by first | rw [x_p_row (by omega), x_p_row (by omega)] | rfl) ?_
          refine a_top (y := (d 176 (6 + k))) (by rw [x_r_same, g_n1_out (by omega) (by omega)]) ?_
          refine a_ishl C dX12_passesNight_82 ?_
          refine a_ior C dX12_passesNight_83 ?_
          refine a_istore_n C dX12_passesNight_84 (by decide) (lst2 := [(2, .int ((g_lt (g_rdy (d 176)) (g_row (d 176) 6) k) ||| (1 <<< ((d 176 (6 + k)) &&& 31)))), (4, .int (nI k)), (3, .int (g_cn (g_rdy (d 176)) k)), (1, .int (g_bt (g_rdy (d 176)) n)), (0, .ref (x_b G + 175))]) rfl ?_
          refine a_iinc C dX12_passesNight_85 2 rfl (v := ((g_cn (g_rdy (d 176)) k) + 1)) rfl (by decide) (lst2 := [(3, .int ((g_cn (g_rdy (d 176)) k) + 1)), (2, .int ((g_lt (g_rdy (d 176)) (g_row (d 176) 6) k) ||| (1 <<< ((d 176 (6 + k)) &&& 31)))), (4, .int (nI k)), (1, .int (g_bt (g_rdy (d 176)) n)), (0, .ref (x_b G + 175))]) rfl ?_
          refine a_iinc C dX12_passesNight_88 2 rfl (v := (nI (k + 1))) (x_inc k) (by decide) (lst2 := [(4, .int (nI (k + 1))), (3, .int ((g_cn (g_rdy (d 176)) k) + 1)), (2, .int ((g_lt (g_rdy (d 176)) (g_row (d 176) 6) k) ||| (1 <<< ((d 176 (6 + k)) &&& 31)))), (1, .int (g_bt (g_rdy (d 176)) n)), (0, .ref (x_b G + 175))]) rfl ?_
          refine a_goto C dX12_passesNight_91 (tgt := 12) (by decide) ?_
          refine a_sub (lst2 := [(4, .int (nI (k + 1))), (3, .int ((g_cn (g_rdy (d 176)) k) + 1)), (2, .int ((g_lt (g_rdy (d 176)) (g_row (d 176) 6) k) ||| (1 <<< ((d 176 (6 + k)) &&& 31)))), (1, .int (g_bt (g_rdy (d 176)) n)), (0, .ref (x_b G + 175))]) [0, 1, 2, 3, 4] rfl ?_
          refine a_to (lst2 := [(4, .int (nI ((k + 1)))), (3, .int (g_cn (g_rdy (d 176)) ((k + 1)))), (2, .int (g_lt (g_rdy (d 176)) (g_row (d 176) 6) ((k + 1)))), (1, .int (g_bt (g_rdy (d 176)) n)), (0, .ref (x_b G + 175))]) (st2 := []) (d2 := x_r d 176 (g_n1 (d 176) (g_rdy (d 176)) ((k + 1)))) (by rw [g_cn, g_lt, if_pos ((g_bt_on (g_rdy (d 176)) h8 (by omega)).mp h30).2, if_pos ((g_bt_on (g_rdy (d 176)) h8 (by omega)).mp h30).2]; rfl) rfl (x_p_r4 (g_n1_s (by omega) ((g_bt_on (g_rdy (d 176)) h8 (by omega)).mp h30).2)).symm ?_
          exact ih1 (k + 1) (by omega) (by omega) 
  refine a_sub (lst2 := [(4, .int 0), (3, .int 0), (2, .int 0), (1, .int (g_bt (g_rdy (d 176)) n)), (0, .ref (x_b G + 175))]) [0, 1, 2, 3, 4] rfl ?_
  refine a_toD (d2 := x_r d 176 (g_n1 (d 176) (g_rdy (d 176)) 0)) (by rw [g_n1_0]; exact x_r_id d 176) ?_
  exact L12 (n + 1) 0 (by omega) (by omega)

