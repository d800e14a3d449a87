set_option maxHeartbeats 1000000 in
set_option maxRecDepth 100000 in
theorem c_M_adds_1 (l : Launch) (G : xG) (d : xd) (a b : Int32) (hx : ¬ (0 ≤ a ∧ a ≤ 3) ∨ ¬ (1 ≤ b ∧ b ≤ 9)) : x_M G l yX12_adds wsX12_adds 3 0 0 [.ref (x_b G + 175), .int a, .int b] d (some (.int 0)) (g_th d 1) := by
  refine x_start (cc := cX12_adds) (maxL := 4) (ret := (some .int)) (own := RX12) (by decide) rfl rfl (Nat.le_of_ble_eq_true rfl) (lst := [(0, .ref (x_b G + 175)), (1, .int a), (2, .int b)]) rfl ?_
  intro p e s m args below meth c C hr hlocks
  refine a_iload_n C dX12_adds_0 1 rfl ?_
  refine a_iconst C dX12_adds_1 (v := 0) (by decide) ?_
  refine a_iconst C dX12_adds_2 (v := 3) (by decide) ?_
  refine a_callS C (As := [.int a, .int 0, .int 3]) (rest := []) (c_M_in l G d a 0 3) (va_cwS 3 C.1.2.2.2.2 gX12_adds_X12_in rfl rfl rfl (by decide +kernel) ⟨Nat.le_of_ble_eq_true rfl, Nat.le_of_ble_eq_true rfl⟩) rfl rfl (Nat.le_of_ble_eq_true rfl) dX12_adds_3 ⟨Nat.le_of_ble_eq_true rfl, Nat.le_of_ble_eq_true rfl⟩ ?_
  refine a_if_eq C dX12_adds_6 (tgt := 19) (by decide) (fun h6 => ?_) (fun h6 => ?_)
  · skip
    refine a_aload_n C dX12_adds_19 0 rfl ?_
    refine a_iconst C dX12_adds_20 (v := 1) (by decide) ?_
    refine a_callV C (k := 175) (As := [.int 1]) (rest := []) (c_M_fails l G d 1) (cwV 1 C.1.2.2.2.2 gX12_adds_X12_fails rfl rfl rfl (by decide +kernel) ⟨Nat.le_of_ble_eq_true rfl, Nat.le_of_ble_eq_true rfl⟩) x_k175 (q := (RX12, TX12, 16)) rfl rfl rfl rfl (Nat.le_of_ble_eq_true rfl) dX12_adds_21 ⟨Nat.le_of_ble_eq_true rfl, Nat.le_of_ble_eq_true rfl⟩ ?_
    exact a_iret C hlocks hr dX12_adds_24 rfl rfl
  · skip
    refine a_iload_n C dX12_adds_9 2 rfl ?_
    refine a_iconst C dX12_adds_10 (v := 1) (by decide) ?_
    refine a_bipush C dX12_adds_11 (v := 9) (by decide) ?_
    refine a_callS C (As := [.int b, .int 1, .int 9]) (rest := []) (c_M_in l G d b 1 9) (va_cwS 3 C.1.2.2.2.2 gX12_adds_X12_in rfl rfl rfl (by decide +kernel) ⟨Nat.le_of_ble_eq_true rfl, Nat.le_of_ble_eq_true rfl⟩) rfl rfl (Nat.le_of_ble_eq_true rfl) dX12_adds_13 ⟨Nat.le_of_ble_eq_true rfl, Nat.le_of_ble_eq_true rfl⟩ ?_
    refine a_if_ne C dX12_adds_16 (tgt := 25) (by decide) (fun h16 => ?_) (fun h16 => ?_)
    · skip
      exact (hx.elim (fun z => z (x_bi_nz h6)) (fun z => z (x_bi_nz h16))).elim
    · skip
      refine a_aload_n C dX12_adds_19 0 rfl ?_
      refine a_iconst C dX12_adds_20 (v := 1) (by decide) ?_
      refine a_callV C (k := 175) (As := [.int 1]) (rest := []) (c_M_fails l G d 1) (cwV 1 C.1.2.2.2.2 gX12_adds_X12_fails rfl rfl rfl (by decide +kernel) ⟨Nat.le_of_ble_eq_true rfl, Nat.le_of_ble_eq_true rfl⟩) x_k175 (q := (RX12, TX12, 16)) rfl rfl rfl rfl (Nat.le_of_ble_eq_true rfl) dX12_adds_21 ⟨Nat.le_of_ble_eq_true rfl, Nat.le_of_ble_eq_true rfl⟩ ?_
      exact a_iret C hlocks hr dX12_adds_24 rfl rfl

set_option maxHeartbeats 1000000 in
set_option maxRecDepth 100000 in
theorem c_M_adds_2 (l : Launch) (G : xG) (d : xd) (a b : Int32) (ha : 0 ≤ a ∧ a ≤ 3) (hb : 1 ≤ b ∧ b ≤ 9) (hn : d 176 0 = 8) : x_M G l yX12_adds wsX12_adds 3 0 0 [.ref (x_b G + 175), .int a, .int b] d (some (.int 0)) (g_th d 2) := by
  have iX12 : ∀ w ∈ u_ws RX12 TX12 16, w ∈ wsX12_adds := by decide +kernel
  refine x_start (cc := cX12_adds) (maxL := 4) (ret := (some .int)) (own := RX12) (by decide) rfl rfl (Nat.le_of_ble_eq_true rfl) (lst := [(0, .ref (x_b G + 175)), (1, .int a), (2, .int b)]) rfl ?_
  intro p e s m args below meth c C hr hlocks
  refine a_iload_n C dX12_adds_0 1 rfl ?_
  refine a_iconst C dX12_adds_1 (v := 0) (by decide) ?_
  refine a_iconst C dX12_adds_2 (v := 3) (by decide) ?_
  refine a_callS C (As := [.int a, .int 0, .int 3]) (rest := []) (c_M_in_t l G d a 0 3 ha) (va_cwS 3 C.1.2.2.2.2 gX12_adds_X12_in rfl rfl rfl (by decide +kernel) ⟨Nat.le_of_ble_eq_true rfl, Nat.le_of_ble_eq_true rfl⟩) rfl rfl (Nat.le_of_ble_eq_true rfl) dX12_adds_3 ⟨Nat.le_of_ble_eq_true rfl, Nat.le_of_ble_eq_true rfl⟩ ?_
  refine a_if_eq C dX12_adds_6 (tgt := 19) (by decide) (fun h => absurd h (by decide)) (fun _ => ?_)
  refine a_iload_n C dX12_adds_9 2 rfl ?_
  refine a_iconst C dX12_adds_10 (v := 1) (by decide) ?_
  refine a_bipush C dX12_adds_11 (v := 9) (by decide) ?_
  refine a_callS C (As := [.int b, .int 1, .int 9]) (rest := []) (c_M_in_t l G d b 1 9 hb) (va_cwS 3 C.1.2.2.2.2 gX12_adds_X12_in rfl rfl rfl (by decide +kernel) ⟨Nat.le_of_ble_eq_true rfl, Nat.le_of_ble_eq_true rfl⟩) rfl rfl (Nat.le_of_ble_eq_true rfl) dX12_adds_13 ⟨Nat.le_of_ble_eq_true rfl, Nat.le_of_ble_eq_true rfl⟩ ?_
  refine a_if_ne C dX12_adds_16 (tgt := 25) (by decide) (fun _ => ?_) (fun h => absurd h (by decide))
  refine a_aload_n C dX12_adds_25 0 rfl ?_
  refine a_getR C (k := 175) iX12 x_k175 rfl (j := 0) rfl (by decide) (by decide +kernel) dX12_adds_26 ?_
  refine a_iconst C dX12_adds_29 (v := 0) (by decide) ?_
  refine a_ialdN C (k := 176) x_k176 (i := 0) rfl (by decide) (by first | decide | omega) dX12_adds_30 ?_
  refine a_top (y := 8) hn ?_
  refine a_istore_n C dX12_adds_31 (by decide) (lst2 := [(3, .int 8), (0, .ref (x_b G + 175)), (1, .int a), (2, .int b)]) rfl ?_
  refine a_iload_n C dX12_adds_32 0 rfl ?_
  refine a_bipush C dX12_adds_33 (v := 8) (by decide) ?_
  refine a_icmp_ne C dX12_adds_35 (tgt := 44) (by decide) (fun h => absurd h (by decide)) (fun _ => ?_)
  refine a_aload_n C dX12_adds_38 1 rfl ?_
  refine a_iconst C dX12_adds_39 (v := 2) (by decide) ?_
  refine a_callV C (k := 175) (As := [.int 2]) (rest := []) (c_M_fails l G d 2) (cwV 1 C.1.2.2.2.2 gX12_adds_X12_fails rfl rfl rfl (by decide +kernel) ⟨Nat.le_of_ble_eq_true rfl, Nat.le_of_ble_eq_true rfl⟩) x_k175 (q := (RX12, TX12, 16)) rfl rfl rfl rfl (Nat.le_of_ble_eq_true rfl) dX12_adds_40 ⟨Nat.le_of_ble_eq_true rfl, Nat.le_of_ble_eq_true rfl⟩ ?_
  exact a_iret C hlocks hr dX12_adds_43 rfl rfl

theorem x_nI_ne {n k : Nat} (h : n < k) (hk : k < 1000) : ¬ nI n = nI k := fun e => by
  have := (nI_eq (by omega) (by omega)).mp e
  omega
def g_adds (z : Nat → Int32) (a b : Int32) (n : Nat) : Nat → Int32 := upd (upd (upd (upd (upd (upd (upd (upd (z) (6 + n) (a)) (14 + n) (b)) (22 + n) (1)) (30 + n) (0)) (38 + n) (0)) (46 + n) (0)) (54 + n) (0)) (0) ((nI (n + 1)))
set_option maxHeartbeats 1000000 in
set_option maxRecDepth 100000 in
theorem c_M_adds (l : Launch) (G : xG) (d : xd) (a b : Int32) (n : Nat) (ha : 0 ≤ a ∧ a ≤ 3) (hb : 1 ≤ b ∧ b ≤ 9) (hn : d 176 0 = nI n) (h8 : n < 8) : x_M G l yX12_adds wsX12_adds 3 0 0 [.ref (x_b G + 175), .int a, .int b] d (some (.int (nI n))) (g_ok d (g_adds (d 176) a b n)) := by
  have iX12 : ∀ w ∈ u_ws RX12 TX12 16, w ∈ wsX12_adds := by decide +kernel
  refine x_start (cc := cX12_adds) (maxL := 4) (ret := (some .int)) (own := RX12) (by decide) rfl rfl (Nat.le_of_ble_eq_true rfl) (lst := [(0, .ref (x_b G + 175)), (1, .int a), (2, .int b)]) rfl ?_
  intro p e s m args below meth c C hr hlocks
  refine a_iload_n C dX12_adds_0 1 rfl ?_
  refine a_iconst C dX12_adds_1 (v := 0) (by decide) ?_
  refine a_iconst C dX12_adds_2 (v := 3) (by decide) ?_
  refine a_callS C (As := [.int a, .int 0, .int 3]) (rest := []) (c_M_in_t l G d a 0 3 ha) (va_cwS 3 C.1.2.2.2.2 gX12_adds_X12_in rfl rfl rfl (by decide +kernel) ⟨Nat.le_of_ble_eq_true rfl, Nat.le_of_ble_eq_true rfl⟩) rfl rfl (Nat.le_of_ble_eq_true rfl) dX12_adds_3 ⟨Nat.le_of_ble_eq_true rfl, Nat.le_of_ble_eq_true rfl⟩ ?_
  refine a_if_eq C dX12_adds_6 (tgt := 19) (by decide) (fun h => absurd h (by decide)) (fun _ => ?_)
  refine a_iload_n C dX12_adds_9 2 rfl ?_
  refine a_iconst C dX12_adds_10 (v := 1) (by decide) ?_
  refine a_bipush C dX12_adds_11 (v := 9) (by decide) ?_
  refine a_callS C (As := [.int b, .int 1, .int 9]) (rest := []) (c_M_in_t l G d b 1 9 hb) (va_cwS 3 C.1.2.2.2.2 gX12_adds_X12_in rfl rfl rfl (by decide +kernel) ⟨Nat.le_of_ble_eq_true rfl, Nat.le_of_ble_eq_true rfl⟩) rfl rfl (Nat.le_of_ble_eq_true rfl) dX12_adds_13 ⟨Nat.le_of_ble_eq_true rfl, Nat.le_of_ble_eq_true rfl⟩ ?_
  refine a_if_ne C dX12_adds_16 (tgt := 25) (by decide) (fun _ => ?_) (fun h => absurd h (by decide))
  refine a_aload_n C dX12_adds_25 0 rfl ?_
  refine a_getR C (k := 175) iX12 x_k175 rfl (j := 0) rfl (by decide) (by decide +kernel) dX12_adds_26 ?_
  refine a_iconst C dX12_adds_29 (v := 0) (by decide) ?_
  refine a_ialdN C (k := 176) x_k176 (i := 0) rfl (by decide) (by first | decide | omega) dX12_adds_30 ?_
  refine a_top (y := (nI n)) hn ?_
  refine a_istore_n C dX12_adds_31 (by decide) (lst2 := [(3, .int (nI n)), (0, .ref (x_b G + 175)), (1, .int a), (2, .int b)]) rfl ?_
  refine a_iload_n C dX12_adds_32 0 rfl ?_
  refine a_bipush C dX12_adds_33 (v := 8) (by decide) ?_
  refine a_icmp_ne C dX12_adds_35 (tgt := 44) (by decide) (fun h35 => ?_) (fun h => False.elim (x_nI_ne (k := 8) h8 (by omega) h))
  refine a_aload_n C dX12_adds_44 1 rfl ?_
  refine a_getR C (k := 175) iX12 x_k175 rfl (j := 0) rfl (by decide) (by decide +kernel) dX12_adds_45 ?_
  refine a_bipush C dX12_adds_48 (v := 6) (by decide) ?_
  refine a_iload_n C dX12_adds_50 0 rfl ?_
  refine a_iadd C dX12_adds_51 ?_
  refine a_iload_n C dX12_adds_52 2 rfl ?_
  refine a_iastN C (k := 176) x_k176 (i := 6 + n) (x_add2 (a := 6) (b := n) rfl rfl) (by omega) (by first | decide | omega) dX12_adds_53 ?_
  refine a_aload_n C dX12_adds_54 1 rfl ?_
  refine a_getR C (k := 175) iX12 x_k175 rfl (j := 0) rfl (by decide) (by decide +kernel) dX12_adds_55 ?_
  refine a_bipush C dX12_adds_58 (v := 14) (by decide) ?_
  refine a_iload_n C dX12_adds_60 0 rfl ?_
  refine a_iadd C dX12_adds_61 ?_
  refine a_iload_n C dX12_adds_62 3 rfl ?_
  refine a_iastN C (k := 176) x_k176 (i := 14 + n) (x_add2 (a := 14) (b := n) rfl rfl) (by omega) (by first | decide | omega) dX12_adds_63 ?_
  refine a_aload_n C dX12_adds_64 1 rfl ?_
  refine a_getR C (k := 175) iX12 x_k175 rfl (j := 0) rfl (by decide) (by decide +kernel) dX12_adds_65 ?_
  refine a_bipush C dX12_adds_68 (v := 22) (by decide) ?_
  refine a_iload_n C dX12_adds_70 0 rfl ?_
  refine a_iadd C dX12_adds_71 ?_
  refine a_iconst C dX12_adds_72 (v := 1) (by decide) ?_
  refine a_iastN C (k := 176) x_k176 (i := 22 + n) (x_add2 (a := 22) (b := n) rfl rfl) (by omega) (by first | decide | omega) dX12_adds_73 ?_
  refine a_aload_n C dX12_adds_74 1 rfl ?_
  refine a_getR C (k := 175) iX12 x_k175 rfl (j := 0) rfl (by decide) (by decide +kernel) dX12_adds_75 ?_
  refine a_bipush C dX12_adds_78 (v := 30) (by decide) ?_
  refine a_iload_n C dX12_adds_80 0 rfl ?_
  refine a_iadd C dX12_adds_81 ?_
  refine a_iconst C dX12_adds_82 (v := 0) (by decide) ?_
  refine a_iastN C (k := 176) x_k176 (i := 30 + n) (x_add2 (a := 30) (b := n) rfl rfl) (by omega) (by first | decide | omega) dX12_adds_83 ?_
  refine a_aload_n C dX12_adds_84 1 rfl ?_
  refine a_getR C (k := 175) iX12 x_k175 rfl (j := 0) rfl (by decide) (by decide +kernel) dX12_adds_85 ?_
  refine a_bipush C dX12_adds_88 (v := 38) (by decide) ?_
  refine a_iload_n C dX12_adds_90 0 rfl ?_
  refine a_iadd C dX12_adds_91 ?_
  refine a_iconst C dX12_adds_92 (v := 0) (by decide) ?_
  refine a_iastN C (k := 176) x_k176 (i := 38 + n) (x_add2 (a := 38) (b := n) rfl rfl) (by omega) (by first | decide | omega) dX12_adds_93 ?_
  refine a_aload_n C dX12_adds_94 1 rfl ?_
  refine a_getR C (k := 175) iX12 x_k175 rfl (j := 0) rfl (by decide) (by decide +kernel) dX12_adds_95 ?_
  refine a_bipush C dX12_adds_98 (v := 46) (by decide) ?_
  refine a_iload_n C dX12_adds_100 0 rfl ?_
  refine a_iadd C dX12_adds_101 ?_
  refine a_iconst C dX12_adds_102 (v := 0) (by decide) ?_
  refine a_iastN C (k := 176) x_k176 (i := 46 + n) (x_add2 (a := 46) (b := n) rfl rfl) (by omega) (by first | decide | omega) dX12_adds_103 ?_
  refine a_aload_n C dX12_adds_104 1 rfl ?_
  refine a_getR C (k := 175) iX12 x_k175 rfl (j := 0) rfl (by decide) (by decide +kernel) dX12_adds_105 ?_
  refine a_bipush C dX12_adds_108 (v := 54) (by decide) ?_
  refine a_iload_n C dX12_adds_110 0 rfl ?_
  refine a_iadd C dX12_adds_111 ?_
  refine a_iconst C dX12_adds_112 (v := 0) (by decide) ?_
  refine a_iastN C (k := 176) x_k176 (i := 54 + n) (x_add2 (a := 54) (b := n) rfl rfl) (by omega) (by first | decide | omega) dX12_adds_113 ?_
  refine a_aload_n C dX12_adds_114 1 rfl ?_
  refine a_getR C (k := 175) iX12 x_k175 rfl (j := 0) rfl (by decide) (by decide +kernel) dX12_adds_115 ?_
  refine a_iconst C dX12_adds_118 (v := 0) (by decide) ?_
  refine a_dup2 C dX12_adds_119 rfl rfl ?_
  refine a_ialdN C (k := 176) x_k176 (i := 0) rfl (by decide) (by first | decide | omega) dX12_adds_120 ?_
  refine a_top (y := (d 176 0)) (by first | rw [x_p_row (by omega), x_p_row (by omega), x_p_row (by omega), x_p_row (by omega), x_p_row (by omega), x_p_row (by omega), x_p_row (by omega)] | rfl) ?_
  refine a_top (y := (nI n)) hn ?_
  refine a_iconst C dX12_adds_121 (v := 1) (by decide) ?_
  refine a_iadd C dX12_adds_122 ?_
  refine a_top (y := (nI (n + 1))) (nI_1 n) ?_
  refine a_iastN C (k := 176) x_k176 (i := 0) rfl (by decide) (by first | decide | omega) dX12_adds_123 ?_
  refine a_aload_n C dX12_adds_124 1 rfl ?_
  refine a_iload_n C dX12_adds_125 0 rfl ?_
  refine a_callV C (k := 175) (As := [.int (nI n)]) (rest := []) (c_M_done l G (x_p (x_p (x_p (x_p (x_p (x_p (x_p (x_p d 176 (6 + n) a) 176 (14 + n) b) 176 (22 + n) 1) 176 (30 + n) 0) 176 (38 + n) 0) 176 (46 + n) 0) 176 (54 + n) 0) 176 0 (nI (n + 1))) (nI n)) (cwV 1 C.1.2.2.2.2 gX12_adds_X12_done rfl rfl rfl (by decide +kernel) ⟨Nat.le_of_ble_eq_true rfl, Nat.le_of_ble_eq_true rfl⟩) x_k175 (q := (RX12, TX12, 16)) rfl rfl rfl rfl (Nat.le_of_ble_eq_true rfl) dX12_adds_126 ⟨Nat.le_of_ble_eq_true rfl, Nat.le_of_ble_eq_true rfl⟩ ?_
  exact a_iret C hlocks hr dX12_adds_129 rfl (by simp only [g_adds, g_ok, x_p, x_r_r, x_r_same])

def g_clg (z : Nat → Int32) (w p i : Nat) : Nat → Int32 := fun j => if w + p ≤ j ∧ j < w + i then z (j + 1) else z j
def g_cgp (z : Nat → Int32) (w p k : Nat) : Nat → Int32 := fun j => if j = w + k - 1 then 0 else if w + p ≤ j ∧ j < w + k - 1 then z (j + 1) else z j
theorem g_clg_0 (z : Nat → Int32) (w p : Nat) : g_clg z w p p = z := by
  funext j
  simp only [g_clg]
  rw [if_neg (by omega)]
theorem g_clg_s (z : Nat → Int32) {w p i : Nat} (h : p ≤ i) : upd (g_clg z w p i) (w + i) (z (w + i + 1)) = g_clg z w p (i + 1) := by
  funext j
  simp only [upd, g_clg]
  by_cases q : j = w + i
  · subst q
    rw [if_pos rfl, if_pos (by omega)]
  · rw [if_neg q]
    by_cases q2 : w + p ≤ j ∧ j < w + i
    · rw [if_pos q2, if_pos (by omega)]
    · rw [if_neg q2, if_neg (by omega)]
theorem g_clg_e (z : Nat → Int32) {w p k : Nat} (h : p < k) : upd (g_clg z w p (k - 1)) (w + k - 1) 0 = g_cgp z w p k := by
  funext j
  simp only [upd, g_clg, g_cgp]
  by_cases q : j = w + k - 1
  · rw [if_pos q, if_pos q]
  · rw [if_neg q, if_neg q]
    by_cases q2 : w + p ≤ j ∧ j < w + k - 1
    · rw [if_pos q2, if_pos (by omega)]
    · rw [if_neg q2, if_neg (by omega)]
set_option maxHeartbeats 1000000 in
set_option maxRecDepth 100000 in
theorem c_M_closesGap (l : Launch) (G : xG) (d : xd) (w q k : Nat) (hq : q < k) (hw : w + k ≤ 80) : x_M G l yX12_closesGap wsX12_closesGap 1 0 0 [.ref (x_b G + 175), .int (nI w), .int (nI q), .int (nI k)] d none (x_r d 176 (g_cgp (d 176) w q k)) := by
  have iX12 : ∀ w ∈ u_ws RX12 TX12 16, w ∈ wsX12_closesGap := by decide +kernel
  refine x_start (cc := cX12_closesGap) (maxL := 5) (ret := none) (own := RX12) (by decide) rfl rfl (Nat.le_of_ble_eq_true rfl) (lst := [(0, .ref (x_b G + 175)), (1, .int (nI w)), (2, .int (nI q)), (3, .int (nI k))]) rfl ?_
  intro p e s m args below meth c C hr hlocks
  refine a_iload_n C dX12_closesGap_0 2 rfl ?_
  refine a_istore C dX12_closesGap_1 (by decide) (lst2 := [(4, .int (nI q)), (0, .ref (x_b G + 175)), (1, .int (nI w)), (2, .int (nI q)), (3, .int (nI k))]) rfl ?_
  have L3 : ∀ (j i : Nat), i ≤ (k - 1) → (k - 1) < i + j → q ≤ i → Ab G p l e (x_rm 1 0 0) s m args below meth c 5 0 0 (MQ below (x_Q G none (x_r d 176 (g_cgp (d 176) w q k))) args s 0 0 (x_A G)) 3 [(4, .int (nI i)), (0, .ref (x_b G + 175)), (1, .int (nI w)), (2, .int (nI q)), (3, .int (nI k))] [] (x_r d 176 (g_clg (d 176) w q i)) := by
    intro j
    induction j with
    | zero => intro i h1 h2; exact absurd h2 (by omega)
    | succ j ih =>
      intro i hi hj hpi
      refine a_iload C dX12_closesGap_3 0 rfl ?_
      refine a_iload_n C dX12_closesGap_5 4 rfl ?_
      refine a_iconst C dX12_closesGap_6 (v := 1) (by decide) ?_
      refine a_isub C dX12_closesGap_7 ?_
      refine a_top (y := (nI (k - 1))) (pk_sub (a := k) (b := 1) (by omega)) ?_
      refine a_icmp_ge C dX12_closesGap_8 (tgt := 37) (by decide) (fun h8 => ?_) (fun h8 => ?_)
      · skip
        have e := x_ge h8 hi (by omega)
        subst e
        refine a_aload_n C dX12_closesGap_37 1 rfl ?_
        refine a_getR C (k := 175) iX12 x_k175 rfl (j := 0) rfl (by decide) (by decide +kernel) dX12_closesGap_38 ?_
        refine a_iload_n C dX12_closesGap_41 2 rfl ?_
        refine a_iload_n C dX12_closesGap_42 4 rfl ?_
        refine a_iadd C dX12_closesGap_43 ?_
        refine a_iconst C dX12_closesGap_44 (v := 1) (by decide) ?_
        refine a_isub C dX12_closesGap_45 ?_
        refine a_iconst C dX12_closesGap_46 (v := 0) (by decide) ?_
        refine a_iastN C (k := 176) x_k176 (i := w + k - 1) (by rw [nI_add]; exact pk_sub (b := 1) (by omega)) (by omega) (by first | decide | omega) dX12_closesGap_47 ?_
        exact a_vret C hlocks hr dX12_closesGap_48 (x_p_r2 (g_clg_e _ hq))
      · skip
        have hlt := x_nge h8 hi
        refine a_aload_n C dX12_closesGap_11 1 rfl ?_
        refine a_getR C (k := 175) iX12 x_k175 rfl (j := 0) rfl (by decide) (by decide +kernel) dX12_closesGap_12 ?_
        refine a_iload_n C dX12_closesGap_15 2 rfl ?_
        refine a_iload C dX12_closesGap_16 0 rfl ?_
        refine a_iadd C dX12_closesGap_18 ?_
        refine a_aload_n C dX12_closesGap_19 1 rfl ?_
        refine a_getR C (k := 175) iX12 x_k175 rfl (j := 0) rfl (by decide) (by decide +kernel) dX12_closesGap_20 ?_
        refine a_iload_n C dX12_closesGap_23 2 rfl ?_
        refine a_iload C dX12_closesGap_24 0 rfl ?_
        refine a_iadd C dX12_closesGap_26 ?_
        refine a_iconst C dX12_closesGap_27 (v := 1) (by decide) ?_
        refine a_iadd C dX12_closesGap_28 ?_
        refine a_ialdN C (k := 176) x_k176 (i := w + i + 1) (x_add2 (a := w + i) (b := 1) (x_add2 (a := w) (b := i) rfl rfl) rfl) (by omega) (by first | decide | omega) dX12_closesGap_29 ?_
        refine a_top (y := (d 176 (w + i + 1))) (by rw [x_r_same, g_clg, if_neg (by omega)]) ?_
        refine a_iastN C (k := 176) x_k176 (i := w + i) (x_add2 (a := w) (b := i) rfl rfl) (by omega) (by first | decide | omega) dX12_closesGap_30 ?_
        refine a_iinc C dX12_closesGap_31 0 rfl (v := (nI (i + 1))) (x_inc i) (by decide) (lst2 := [(4, .int (nI (i + 1))), (0, .ref (x_b G + 175)), (1, .int (nI w)), (2, .int (nI q)), (3, .int (nI k))]) rfl ?_
        refine a_goto C dX12_closesGap_34 (tgt := 3) (by decide) ?_
        refine a_sub (lst2 := [(4, .int (nI (i + 1))), (0, .ref (x_b G + 175)), (1, .int (nI w)), (2, .int (nI q)), (3, .int (nI k))]) [0, 1, 2, 3, 4] rfl ?_
        refine a_to (lst2 := [(4, .int (nI ((i + 1)))), (0, .ref (x_b G + 175)), (1, .int (nI w)), (2, .int (nI q)), (3, .int (nI k))]) (st2 := []) (d2 := x_r d 176 (g_clg (d 176) w q ((i + 1)))) rfl rfl (x_p_r2 (g_clg_s _ hpi)).symm ?_
        exact ih (i + 1) (by omega) (by omega) (by omega)
  refine a_sub (lst2 := [(4, .int (nI q)), (0, .ref (x_b G + 175)), (1, .int (nI w)), (2, .int (nI q)), (3, .int (nI k))]) [0, 1, 2, 3, 4] rfl ?_
  refine a_toD (d2 := x_r d 176 (g_clg (d 176) w q q)) (by rw [g_clg_0]; exact x_r_id d 176) ?_
  exact L3 (k - 1 + 1) q (by omega) (by omega) (Nat.le_refl q)

def g_gaps (z : Nat → Int32) (i : Nat) : Nat → Nat → Int32
  | 0 => z
  | w + 1 => g_cgp (g_gaps z i w) (6 + 8 * w) i 8
def g_bk (z : Nat → Int32) (i : Nat) : Nat → Int32 := upd (upd (upd z 3 (z 3 + z (38 + i))) 4 (z 4 + z (46 + i))) 5 (z 5 + z (54 + i))
/-- what the moths circle when lamp i has gone -/
def g_fg (z : Nat → Int32) (i k : Nat) : Nat → Int32 := fun j => if 62 ≤ j ∧ j < 62 + k then (if z j - 1 = nI i then 0 else if nI i < z j - 1 then z j - 1 else z j - 1 + 1) else z j
def g_rmv (z : Nat → Int32) (i n q : Nat) : Nat → Int32 := upd (g_fg (g_gaps (g_bk z i) i 7) i q) 0 (nI (n - 1))
theorem g_cgp_out (z : Nat → Int32) {w p k j : Nat} (hk : 0 < k) (h : j < w ∨ w + k ≤ j) : g_cgp z w p k j = z j := by
  simp only [g_cgp]
  rw [if_neg (by omega), if_neg (by omega)]
theorem g_gaps_out (z : Nat → Int32) {i j : Nat} (h : j < 6 ∨ 62 ≤ j) : ∀ w, w ≤ 7 → g_gaps z i w j = z j
  | 0, _ => rfl
  | w + 1, hw => by rw [g_gaps, g_cgp_out _ (by omega) (by omega), g_gaps_out z h w (by omega)]
theorem g_fg_s (z : Nat → Int32) (i k : Nat) {v : Int32} (h : v = if z (62 + k) - 1 = nI i then 0 else if nI i < z (62 + k) - 1 then z (62 + k) - 1 else z (62 + k) - 1 + 1) : upd (g_fg z i k) (62 + k) v = g_fg z i (k + 1) := by
  subst h
  funext j
  simp only [upd, g_fg]
  by_cases q : j = 62 + k
  · subst q
    rw [if_pos rfl, if_pos (show 62 ≤ 62 + k ∧ 62 + k < 62 + (k + 1) by omega)]
  · rw [if_neg q]
    by_cases q2 : 62 ≤ j ∧ j < 62 + k
    · rw [if_pos q2, if_pos (show 62 ≤ j ∧ j < 62 + (k + 1) by omega)]
    · rw [if_neg q2, if_neg (show ¬ (62 ≤ j ∧ j < 62 + (k + 1)) by omega)]
theorem g_fg_0 (z : Nat → Int32) (i : Nat) : g_fg z i 0 = z := by
  funext j
  simp only [g_fg]
  rw [if_neg (by omega)]
theorem g_fg_out (z : Nat → Int32) {i k j : Nat} (h : j < 62 ∨ 62 + k ≤ j) : g_fg z i k j = z j := by
  simp only [g_fg]
  rw [if_neg (by omega)]
set_option maxHeartbeats 1000000 in
set_option maxRecDepth 100000 in
theorem c_M_removes_1 (l : Launch) (G : xG) (d : xd) (x : Int32) (n : Nat) (hn : d 176 0 = nI n) (h8 : n ≤ 8) (hx : ¬ (0 ≤ x ∧ x < nI n)) : x_M G l yX12_removes wsX12_removes 3 0 0 [.ref (x_b G + 175), .int x] d (some (.int 0)) (g_th d 1) := by
  refine x_start (cc := cX12_removes) (maxL := 4) (ret := (some .int)) (own := RX12) (by decide) rfl rfl (Nat.le_of_ble_eq_true rfl) (lst := [(0, .ref (x_b G + 175)), (1, .int x)]) rfl ?_
  intro p e s m args below meth c C hr hlocks
  refine a_aload_n C dX12_removes_0 0 rfl ?_
  refine a_iload_n C dX12_removes_1 1 rfl ?_
  refine a_callV C (k := 175) (As := [.int x]) (rest := []) (c_M_isLamp_f l G d x n hn h8 hx) (cwV 1 C.1.2.2.2.2 gX12_removes_X12_isLamp rfl rfl rfl (by decide +kernel) ⟨Nat.le_of_ble_eq_true rfl, Nat.le_of_ble_eq_true rfl⟩) x_k175 (q := (RX12, TX12, 16)) rfl rfl rfl rfl (Nat.le_of_ble_eq_true rfl) dX12_removes_2 ⟨Nat.le_of_ble_eq_true rfl, Nat.le_of_ble_eq_true rfl⟩ ?_
  refine a_if_ne C dX12_removes_5 (tgt := 14) (by decide) (fun h => absurd h (by decide)) (fun _ => ?_)
  refine a_aload_n C dX12_removes_8 0 rfl ?_
  refine a_iconst C dX12_removes_9 (v := 1) (by decide) ?_
  refine a_callV C (k := 175) (As := [.int 1]) (rest := []) (c_M_fails l G d 1) (cwV 1 C.1.2.2.2.2 gX12_removes_X12_fails rfl rfl rfl (by decide +kernel) ⟨Nat.le_of_ble_eq_true rfl, Nat.le_of_ble_eq_true rfl⟩) x_k175 (q := (RX12, TX12, 16)) rfl rfl rfl rfl (Nat.le_of_ble_eq_true rfl) dX12_removes_10 ⟨Nat.le_of_ble_eq_true rfl, Nat.le_of_ble_eq_true rfl⟩ ?_
  exact a_iret C hlocks hr dX12_removes_13 rfl rfl

set_option maxHeartbeats 1000000 in
set_option maxRecDepth 100000 in
theorem c_M_removes_2 (l : Launch) (G : xG) (d : xd) (i n : Nat) (hn : d 176 0 = nI n) (h8 : n ≤ 8) (hi : i < n) (hp : 99 < d 176 4 + d 176 (46 + i)) : x_M G l yX12_removes wsX12_removes 3 0 0 [.ref (x_b G + 175), .int (nI i)] d (some (.int 0)) (g_th d 2) := by
  have iX12 : ∀ w ∈ u_ws RX12 TX12 16, w ∈ wsX12_removes := by decide +kernel
  refine x_start (cc := cX12_removes) (maxL := 4) (ret := (some .int)) (own := RX12) (by decide) rfl rfl (Nat.le_of_ble_eq_true rfl) (lst := [(0, .ref (x_b G + 175)), (1, .int (nI i))]) rfl ?_
  intro p e s m args below meth c C hr hlocks
  refine a_aload_n C dX12_removes_0 0 rfl ?_
  refine a_iload_n C dX12_removes_1 1 rfl ?_
  refine a_callV C (k := 175) (As := [.int (nI i)]) (rest := []) (c_M_isLamp_t l G d i n hn h8 hi) (cwV 1 C.1.2.2.2.2 gX12_removes_X12_isLamp rfl rfl rfl (by decide +kernel) ⟨Nat.le_of_ble_eq_true rfl, Nat.le_of_ble_eq_true rfl⟩) x_k175 (q := (RX12, TX12, 16)) rfl rfl rfl rfl (Nat.le_of_ble_eq_true rfl) dX12_removes_2 ⟨Nat.le_of_ble_eq_true rfl, Nat.le_of_ble_eq_true rfl⟩ ?_
  refine a_if_ne C dX12_removes_5 (tgt := 14) (by decide) (fun _ => ?_) (fun h => absurd h (by decide))
  refine a_aload_n C dX12_removes_14 0 rfl ?_
  refine a_getR C (k := 175) iX12 x_k175 rfl (j := 0) rfl (by decide) (by decide +kernel) dX12_removes_15 ?_
  refine a_iconst C dX12_removes_18 (v := 4) (by decide) ?_
  refine a_ialdN C (k := 176) x_k176 (i := 4) rfl (by decide) (by first | decide | omega) dX12_removes_19 ?_
  refine a_aload_n C dX12_removes_20 0 rfl ?_
  refine a_getR C (k := 175) iX12 x_k175 rfl (j := 0) rfl (by decide) (by decide +kernel) dX12_removes_21 ?_
  refine a_bipush C dX12_removes_24 (v := 46) (by decide) ?_
  refine a_iload_n C dX12_removes_26 1 rfl ?_
  refine a_iadd C dX12_removes_27 ?_
  refine a_ialdN C (k := 176) x_k176 (i := 46 + i) (x_add2 (a := 46) (b := i) rfl rfl) (by omega) (by first | decide | omega) dX12_removes_28 ?_
  refine a_iadd C dX12_removes_29 ?_
  refine a_bipush C dX12_removes_30 (v := 99) (by decide) ?_
  refine a_icmp_le C dX12_removes_32 (tgt := 41) (by decide) (fun h => absurd h (Int32.not_le.mpr hp)) (fun h32 => ?_)
  refine a_aload_n C dX12_removes_35 0 rfl ?_
  refine a_iconst C dX12_removes_36 (v := 2) (by decide) ?_
  refine a_callV C (k := 175) (As := [.int 2]) (rest := []) (c_M_fails l G d 2) (cwV 1 C.1.2.2.2.2 gX12_removes_X12_fails rfl rfl rfl (by decide +kernel) ⟨Nat.le_of_ble_eq_true rfl, Nat.le_of_ble_eq_true rfl⟩) x_k175 (q := (RX12, TX12, 16)) rfl rfl rfl rfl (Nat.le_of_ble_eq_true rfl) dX12_removes_37 ⟨Nat.le_of_ble_eq_true rfl, Nat.le_of_ble_eq_true rfl⟩ ?_
  exact a_iret C hlocks hr dX12_removes_40 rfl rfl

set_option maxHeartbeats 1000000 in
set_option maxRecDepth 100000 in
theorem c_M_removes (l : Launch) (G : xG) (d : xd) (i n : Nat) (hn : d 176 0 = nI n) (h8 : n ≤ 8) (hi : i < n) (q : Nat) (hq : d 176 1 = nI q) (h6 : q ≤ 6) (hp : ¬ 99 < d 176 4 + d 176 (46 + i)) : x_M G l yX12_removes wsX12_removes 3 0 0 [.ref (x_b G + 175), .int (nI i)] d (some (.int (nI (n - 1)))) (g_ok d (g_rmv (d 176) i n q)) := by
  have iX12 : ∀ w ∈ u_ws RX12 TX12 16, w ∈ wsX12_removes := by decide +kernel
  refine x_start (cc := cX12_removes) (maxL := 4) (ret := (some .int)) (own := RX12) (by decide) rfl rfl (Nat.le_of_ble_eq_true rfl) (lst := [(0, .ref (x_b G + 175)), (1, .int (nI i))]) rfl ?_
  intro p e s m args below meth c C hr hlocks
  refine a_aload_n C dX12_removes_0 0 rfl ?_
  refine a_iload_n C dX12_removes_1 1 rfl ?_
  refine a_callV C (k := 175) (As := [.int (nI i)]) (rest := []) (c_M_isLamp_t l G d i n hn h8 hi) (cwV 1 C.1.2.2.2.2 gX12_removes_X12_isLamp rfl rfl rfl (by decide +kernel) ⟨Nat.le_of_ble_eq_true rfl, Nat.le_of_ble_eq_true rfl⟩) x_k175 (q := (RX12, TX12, 16)) rfl rfl rfl rfl (Nat.le_of_ble_eq_true rfl) dX12_removes_2 ⟨Nat.le_of_ble_eq_true rfl, Nat.le_of_ble_eq_true rfl⟩ ?_
  refine a_if_ne C dX12_removes_5 (tgt := 14) (by decide) (fun _ => ?_) (fun h => absurd h (by decide))
  refine a_aload_n C dX12_removes_14 0 rfl ?_
  refine a_getR C (k := 175) iX12 x_k175 rfl (j := 0) rfl (by decide) (by decide +kernel) dX12_removes_15 ?_
  refine a_iconst C dX12_removes_18 (v := 4) (by decide) ?_
  refine a_ialdN C (k := 176) x_k176 (i := 4) rfl (by decide) (by first | decide | omega) dX12_removes_19 ?_
  refine a_aload_n C dX12_removes_20 0 rfl ?_
  refine a_getR C (k := 175) iX12 x_k175 rfl (j := 0) rfl (by decide) (by decide +kernel) dX12_removes_21 ?_
  refine a_bipush C dX12_removes_24 (v := 46) (by decide) ?_
  refine a_iload_n C dX12_removes_26 1 rfl ?_
  refine a_iadd C dX12_removes_27 ?_
  refine a_ialdN C (k := 176) x_k176 (i := 46 + i) (x_add2 (a := 46) (b := i) rfl rfl) (by omega) (by first | decide | omega) dX12_removes_28 ?_
  refine a_iadd C dX12_removes_29 ?_
  refine a_bipush C dX12_removes_30 (v := 99) (by decide) ?_
  refine a_icmp_le C dX12_removes_32 (tgt := 41) (by decide) (fun h32 => ?_) (fun h => False.elim (hp (Int32.not_le.mp h)))
  refine a_aload_n C dX12_removes_41 0 rfl ?_
  refine a_getR C (k := 175) iX12 x_k175 rfl (j := 0) rfl (by decide) (by decide +kernel) dX12_removes_42 ?_
  refine a_iconst C dX12_removes_45 (v := 3) (by decide) ?_
  refine a_dup2 C dX12_removes_46 rfl rfl ?_
  refine a_ialdN C (k := 176) x_k176 (i := 3) rfl (by decide) (by first | decide | omega) dX12_removes_47 ?_
  refine a_aload_n C dX12_removes_48 0 rfl ?_
  refine a_getR C (k := 175) iX12 x_k175 rfl (j := 0) rfl (by decide) (by decide +kernel) dX12_removes_49 ?_
  refine a_bipush C dX12_removes_52 (v := 38) (by decide) ?_
  refine a_iload_n C dX12_removes_54 1 rfl ?_
  refine a_iadd C dX12_removes_55 ?_
  refine a_ialdN C (k := 176) x_k176 (i := 38 + i) (x_add2 (a := 38) (b := i) rfl rfl) (by omega) (by first | decide | omega) dX12_removes_56 ?_
  refine a_iadd C dX12_removes_57 ?_
  refine a_iastN C (k := 176) x_k176 (i := 3) rfl (by decide) (by first | decide | omega) dX12_removes_58 ?_
  refine a_aload_n C dX12_removes_59 0 rfl ?_
  refine a_getR C (k := 175) iX12 x_k175 rfl (j := 0) rfl (by decide) (by decide +kernel) dX12_removes_60 ?_
  refine a_iconst C dX12_removes_63 (v := 4) (by decide) ?_
  refine a_dup2 C dX12_removes_64 rfl rfl ?_
  refine a_ialdN C (k := 176) x_k176 (i := 4) rfl (by decide) (by first | decide | omega) dX12_removes_65 ?_
  refine a_top (y := (d 176 4)) (by first | rw [x_p_row (by omega)] | rfl) ?_
  refine a_aload_n C dX12_removes_66 0 rfl ?_
  refine a_getR C (k := 175) iX12 x_k175 rfl (j := 0) rfl (by decide) (by decide +kernel) dX12_removes_67 ?_
  refine a_bipush C dX12_removes_70 (v := 46) (by decide) ?_
  refine a_iload_n C dX12_removes_72 1 rfl ?_
  refine a_iadd C dX12_removes_73 ?_
  refine a_ialdN C (k := 176) x_k176 (i := 46 + i) (x_add2 (a := 46) (b := i) rfl rfl) (by omega) (by first | decide | omega) dX12_removes_74 ?_
  refine a_top (y := (d 176 (46 + i))) (by first | rw [x_p_row (by omega)] | rfl) ?_
  refine a_iadd C dX12_removes_75 ?_
  refine a_iastN C (k := 176) x_k176 (i := 4) rfl (by decide) (by first | decide | omega) dX12_removes_76 ?_
  refine a_aload_n C dX12_removes_77 0 rfl ?_
  refine a_getR C (k := 175) iX12 x_k175 rfl (j := 0) rfl (by decide) (by decide +kernel) dX12_removes_78 ?_
  refine a_iconst C dX12_removes_81 (v := 5) (by decide) ?_
  refine a_dup2 C dX12_removes_82 rfl rfl ?_
  refine a_ialdN C (k := 176) x_k176 (i := 5) rfl (by decide) (by first | decide | omega) dX12_removes_83 ?_
  refine a_top (y := (d 176 5)) (by first | rw [x_p_row (by omega), x_p_row (by omega)] | rfl) ?_
  refine a_aload_n C dX12_removes_84 0 rfl ?_
  refine a_getR C (k := 175) iX12 x_k175 rfl (j := 0) rfl (by decide) (by decide +kernel) dX12_removes_85 ?_
  refine a_bipush C dX12_removes_88 (v := 54) (by decide) ?_
  refine a_iload_n C dX12_removes_90 1 rfl ?_
  refine a_iadd C dX12_removes_91 ?_
  refine a_ialdN C (k := 176) x_k176 (i := 54 + i) (x_add2 (a := 54) (b := i) rfl rfl) (by omega) (by first | decide | omega) dX12_removes_92 ?_
  refine a_top (y := (d 176 (54 + i))) (by first | rw [x_p_row (by omega), x_p_row (by omega)] | rfl) ?_
  refine a_iadd C dX12_removes_93 ?_
  refine a_iastN C (k := 176) x_k176 (i := 5) rfl (by decide) (by first | decide | omega) dX12_removes_94 ?_
  refine a_bipush C dX12_removes_95 (v := 6) (by decide) ?_
  refine a_istore_n C dX12_removes_97 (by decide) (lst2 := [(2, .int 6), (0, .ref (x_b G + 175)), (1, .int (nI i))]) rfl ?_
  have L98 : ∀ (j w : Nat), w ≤ 7 → 7 < w + j → Ab G p l e (x_rm 3 0 0) s m args below meth c 4 0 0 (MQ below (x_Q G (some (.int (nI (n - 1)))) (g_ok d (g_rmv (d 176) i n q))) args s 0 0 (x_A G)) 98 [(2, .int (nI (6 + 8 * w))), (0, .ref (x_b G + 175)), (1, .int (nI i))] [] (x_r d 176 (g_gaps (g_bk (d 176) i) i w)) := by
    intro j
    induction j with
    | zero => intro w h1 h2; exact absurd h2 (by omega)
    | succ j ih =>
      intro w hi2 hj 
      refine a_iload_n C dX12_removes_98 0 rfl ?_
      refine a_bipush C dX12_removes_99 (v := 62) (by decide) ?_
      refine a_icmp_ge C dX12_removes_101 (tgt := 118) (by decide) (fun h101 => ?_) (fun h101 => ?_)
      · skip
        have e : w = 7 := by
          have := (nI_leI (a := 62) (by omega) (by omega)).mp h101
          omega
        subst e
        refine a_iconst C dX12_removes_118 (v := 0) (by decide) ?_
        refine a_istore_n C dX12_removes_119 (by decide) (lst2 := [(2, .int 0), (0, .ref (x_b G + 175)), (1, .int (nI i))]) rfl ?_
        have L120 : ∀ (j k : Nat), k ≤ q → q < k + j → Ab G p l e (x_rm 3 0 0) s m args below meth c 4 0 0 (MQ below (x_Q G (some (.int (nI (n - 1)))) (g_ok d (g_rmv (d 176) i n q))) args s 0 0 (x_A G)) 120 [(2, .int (nI k)), (0, .ref (x_b G + 175)), (1, .int (nI i))] [] (x_r d 176 (g_fg (g_gaps (g_bk (d 176) i) i 7) i k)) := by
          intro j
          induction j with
          | zero => intro k h1 h2; exact absurd h2 (by omega)
          | succ j ih2 =>
            intro k hi3 hj 
            refine a_iload_n C dX12_removes_120 0 rfl ?_
            refine a_aload_n C dX12_removes_121 1 rfl ?_
            refine a_getR C (k := 175) iX12 x_k175 rfl (j := 0) rfl (by decide) (by decide +kernel) dX12_removes_122 ?_
            refine a_iconst C dX12_removes_125 (v := 1) (by decide) ?_
            refine a_ialdN C (k := 176) x_k176 (i := 1) rfl (by decide) (by first | decide | omega) dX12_removes_126 ?_
            refine a_top (y := (nI q)) (by rw [x_r_same, g_fg_out _ (by omega), g_gaps_out _ (by omega) _ (by omega)]; exact hq) ?_
            refine a_icmp_ge C dX12_removes_127 (tgt := 178) (by decide) (fun h127 => ?_) (fun h127 => ?_)
            · skip
              have e := x_ge h127 hi3 (by omega)
              subst e
              refine a_aload_n C dX12_removes_178 1 rfl ?_
              refine a_getR C (k := 175) iX12 x_k175 rfl (j := 0) rfl (by decide) (by decide +kernel) dX12_removes_179 ?_
              refine a_iconst C dX12_removes_182 (v := 0) (by decide) ?_
              refine a_dup2 C dX12_removes_183 rfl rfl ?_
              refine a_ialdN C (k := 176) x_k176 (i := 0) rfl (by decide) (by first | decide | omega) dX12_removes_184 ?_
              refine a_top (y := (nI n)) (by rw [x_r_same, g_fg_out _ (by omega), g_gaps_out _ (by omega) _ (by omega)]; exact hn) ?_
              refine a_iconst C dX12_removes_185 (v := 1) (by decide) ?_
              refine a_isub C dX12_removes_186 ?_
              refine a_top (y := (nI (n - 1))) (pk_sub (a := n) (b := 1) (by omega)) ?_
              refine a_iastN C (k := 176) x_k176 (i := 0) rfl (by decide) (by first | decide | omega) dX12_removes_187 ?_
              refine a_aload_n C dX12_removes_188 1 rfl ?_
              refine a_aload_n C dX12_removes_189 1 rfl ?_
              refine a_getR C (k := 175) iX12 x_k175 rfl (j := 0) rfl (by decide) (by decide +kernel) dX12_removes_190 ?_
              refine a_iconst C dX12_removes_193 (v := 0) (by decide) ?_
              refine a_ialdN C (k := 176) x_k176 (i := 0) rfl (by decide) (by first | decide | omega) dX12_removes_194 ?_
              refine a_top (y := ((nI (n - 1)))) (by first | rw [x_p_at] | rfl) ?_
              refine a_callV C (k := 175) (As := [.int ((nI (n - 1)))]) (rest := []) (c_M_done l G (x_p (x_r d 176 (g_fg (g_gaps (g_bk (d 176) i) i 7) i k)) 176 0 (nI (n - 1))) ((nI (n - 1)))) (cwV 1 C.1.2.2.2.2 gX12_removes_X12_done rfl rfl rfl (by decide +kernel) ⟨Nat.le_of_ble_eq_true rfl, Nat.le_of_ble_eq_true rfl⟩) x_k175 (q := (RX12, TX12, 16)) rfl rfl rfl rfl (Nat.le_of_ble_eq_true rfl) dX12_removes_195 ⟨Nat.le_of_ble_eq_true rfl, Nat.le_of_ble_eq_true rfl⟩ ?_
              exact a_iret C hlocks hr dX12_removes_198 rfl (by simp only [g_rmv, x_p, x_r_r, x_r_same])
            · skip
              have hlt := x_nge h127 hi3
              refine a_aload_n C dX12_removes_130 1 rfl ?_
              refine a_getR C (k := 175) iX12 x_k175 rfl (j := 0) rfl (by decide) (by decide +kernel) dX12_removes_131 ?_
              refine a_bipush C dX12_removes_134 (v := 62) (by decide) ?_
              refine a_iload_n C dX12_removes_136 0 rfl ?_
              refine a_iadd C dX12_removes_137 ?_
              refine a_ialdN C (k := 176) x_k176 (i := 62 + k) (x_add2 (a := 62) (b := k) rfl rfl) (by omega) (by first | decide | omega) dX12_removes_138 ?_
              refine a_top (y := (g_gaps (g_bk (d 176) i) i 7 (62 + k))) (by rw [x_r_same, g_fg_out _ (by omega)]) ?_
              refine a_iconst C dX12_removes_139 (v := 1) (by decide) ?_
              refine a_isub C dX12_removes_140 ?_
              refine a_istore_n C dX12_removes_141 (by decide) (lst2 := [(3, .int ((g_gaps (g_bk (d 176) i) i 7 (62 + k)) - 1)), (2, .int (nI k)), (0, .ref (x_b G + 175)), (1, .int (nI i))]) rfl ?_
              refine a_aload_n C dX12_removes_142 2 rfl ?_
              refine a_getR C (k := 175) iX12 x_k175 rfl (j := 0) rfl (by decide) (by decide +kernel) dX12_removes_143 ?_
              refine a_bipush C dX12_removes_146 (v := 62) (by decide) ?_
              refine a_iload_n C dX12_removes_148 1 rfl ?_
              refine a_iadd C dX12_removes_149 ?_
              refine a_iload_n C dX12_removes_150 0 rfl ?_
              refine a_iload_n C dX12_removes_151 3 rfl ?_
              refine a_icmp_ne C dX12_removes_152 (tgt := 159) (by decide) (fun h152 => ?_) (fun h152 => ?_)
              · skip
                refine a_iload_n C dX12_removes_159 0 rfl ?_
                refine a_iload_n C dX12_removes_160 3 rfl ?_
                refine a_icmp_le C dX12_removes_161 (tgt := 168) (by decide) (fun h161 => ?_) (fun h161 => ?_)
                · skip
                  refine a_iload_n C dX12_removes_168 0 rfl ?_
                  refine a_iconst C dX12_removes_169 (v := 1) (by decide) ?_
                  refine a_iadd C dX12_removes_170 ?_
                  refine a_iastN C (k := 176) x_k176 (i := 62 + k) (x_add2 (a := 62) (b := k) rfl rfl) (by omega) (by first | decide | omega) dX12_removes_171 ?_
                  refine a_iinc C dX12_removes_172 1 rfl (v := (nI (k + 1))) (x_inc k) (by decide) (lst2 := [(2, .int (nI (k + 1))), (3, .int ((g_gaps (g_bk (d 176) i) i 7 (62 + k)) - 1)), (0, .ref (x_b G + 175)), (1, .int (nI i))]) rfl ?_
                  refine a_goto C dX12_removes_175 (tgt := 120) (by decide) ?_
                  refine a_sub (lst2 := [(2, .int (nI (k + 1))), (0, .ref (x_b G + 175)), (1, .int (nI i))]) [0, 2, 3] rfl ?_
                  refine a_to (lst2 := [(2, .int (nI ((k + 1)))), (0, .ref (x_b G + 175)), (1, .int (nI i))]) (st2 := []) (d2 := x_r d 176 (g_fg (g_gaps (g_bk (d 176) i) i 7) i ((k + 1)))) rfl rfl (x_p_r2 (g_fg_s _ i k (by rw [if_neg h152, if_neg (Int32.not_lt.mpr h161)]))).symm ?_
                  exact ih2 (k + 1) (by omega) (by omega) 
                · skip
                  refine a_iload_n C dX12_removes_164 0 rfl ?_
                  refine a_goto C dX12_removes_165 (tgt := 171) (by decide) ?_
                  refine a_iastN C (k := 176) x_k176 (i := 62 + k) (x_add2 (a := 62) (b := k) rfl rfl) (by omega) (by first | decide | omega) dX12_removes_171 ?_
                  refine a_iinc C dX12_removes_172 1 rfl (v := (nI (k + 1))) (x_inc k) (by decide) (lst2 := [(2, .int (nI (k + 1))), (3, .int ((g_gaps (g_bk (d 176) i) i 7 (62 + k)) - 1)), (0, .ref (x_b G + 175)), (1, .int (nI i))]) rfl ?_
                  refine a_goto C dX12_removes_175 (tgt := 120) (by decide) ?_
                  refine a_sub (lst2 := [(2, .int (nI (k + 1))), (0, .ref (x_b G + 175)), (1, .int (nI i))]) [0, 2, 3] rfl ?_
                  refine a_to (lst2 := [(2, .int (nI ((k + 1)))), (0, .ref (x_b G + 175)), (1, .int (nI i))]) (st2 := []) (d2 := x_r d 176 (g_fg (g_gaps (g_bk (d 176) i) i 7) i ((k + 1)))) rfl rfl (x_p_r2 (g_fg_s _ i k (by rw [if_neg h152, if_pos (Int32.not_le.mp h161)]))).symm ?_
                  exact ih2 (k + 1) (by omega) (by omega) 
              · skip
                refine a_iconst C dX12_removes_155 (v := 0) (by decide) ?_
                refine a_goto C dX12_removes_156 (tgt := 171) (by decide) ?_
                refine a_iastN C (k := 176) x_k176 (i := 62 + k) (x_add2 (a := 62) (b := k) rfl rfl) (by omega) (by first | decide | omega) dX12_removes_171 ?_
                refine a_iinc C dX12_removes_172 1 rfl (v := (nI (k + 1))) (x_inc k) (by decide) (lst2 := [(2, .int (nI (k + 1))), (3, .int ((g_gaps (g_bk (d 176) i) i 7 (62 + k)) - 1)), (0, .ref (x_b G + 175)), (1, .int (nI i))]) rfl ?_
                refine a_goto C dX12_removes_175 (tgt := 120) (by decide) ?_
                refine a_sub (lst2 := [(2, .int (nI (k + 1))), (0, .ref (x_b G + 175)), (1, .int (nI i))]) [0, 2, 3] rfl ?_
                refine a_to (lst2 := [(2, .int (nI ((k + 1)))), (0, .ref (x_b G + 175)), (1, .int (nI i))]) (st2 := []) (d2 := x_r d 176 (g_fg (g_gaps (g_bk (d 176) i) i 7) i ((k + 1)))) rfl rfl (x_p_r2 (g_fg_s _ i k (by rw [if_pos h152]))).symm ?_
                exact ih2 (k + 1) (by omega) (by omega) 
        refine a_sub (lst2 := [(2, .int 0), (0, .ref (x_b G + 175)), (1, .int (nI i))]) [0, 1, 2] rfl ?_
        refine a_toD (d2 := x_r d 176 (g_fg (g_gaps (g_bk (d 176) i) i 7) i 0)) (by rw [g_fg_0]) ?_
        exact L120 (q + 1) 0 (by omega) (by omega)
      · skip
        have hlt : w < 7 := by
          rcases Nat.lt_or_ge w 7 with z | z
          · exact z
          · exact absurd ((nI_leI (a := 62) (b := 6 + 8 * w) (by omega) (by omega)).mpr (by omega)) h101
        refine a_aload_n C dX12_removes_104 1 rfl ?_
        refine a_iload_n C dX12_removes_105 0 rfl ?_
        refine a_iload_n C dX12_removes_106 2 rfl ?_
        refine a_bipush C dX12_removes_107 (v := 8) (by decide) ?_
        refine a_callV C (k := 175) (As := [.int (nI (6 + 8 * w)), .int (nI i), .int 8]) (rest := []) (c_M_closesGap l G (x_r d 176 (g_gaps (g_bk (d 176) i) i w)) (6 + 8 * w) i 8 (by omega) (by omega)) (cwV 3 C.1.2.2.2.2 gX12_removes_X12_closesGap rfl rfl rfl (by decide +kernel) ⟨Nat.le_of_ble_eq_true rfl, Nat.le_of_ble_eq_true rfl⟩) x_k175 (q := (RX12, TX12, 16)) rfl rfl rfl rfl (Nat.le_of_ble_eq_true rfl) dX12_removes_109 ⟨Nat.le_of_ble_eq_true rfl, Nat.le_of_ble_eq_true rfl⟩ ?_
        refine a_iinc C dX12_removes_112 0 rfl (v := (nI (6 + 8 * (w + 1)))) (by rw [show 6 + 8 * (w + 1) = 6 + 8 * w + 8 by omega]; exact nI_add _ 8) (by decide) (lst2 := [(2, .int (nI (6 + 8 * (w + 1)))), (0, .ref (x_b G + 175)), (1, .int (nI i))]) rfl ?_
        refine a_goto C dX12_removes_115 (tgt := 98) (by decide) ?_
        refine a_sub (lst2 := [(2, .int (nI (6 + 8 * (w + 1)))), (0, .ref (x_b G + 175)), (1, .int (nI i))]) [0, 1, 2] rfl ?_
        refine a_to (lst2 := [(2, .int (nI (6 + 8 * ((w + 1))))), (0, .ref (x_b G + 175)), (1, .int (nI i))]) (st2 := []) (d2 := x_r d 176 (g_gaps (g_bk (d 176) i) i ((w + 1)))) rfl rfl (by rw [x_r_same, x_r_r]; rfl) ?_
        exact ih (w + 1) (by omega) (by omega) 
  refine a_sub (lst2 := [(2, .int 6), (0, .ref (x_b G + 175)), (1, .int (nI i))]) [0, 1, 2] rfl ?_
  refine a_toD (d2 := x_r d 176 (g_gaps (g_bk (d 176) i) i 0)) (by simp only [g_gaps, g_bk, x_p, x_r_r, x_r_same]) ?_
  exact L98 8 0 (by omega) (by omega)

set_option maxHeartbeats 1000000 in
set_option maxRecDepth 100000 in
theorem c_M_sets_1 (l : Launch) (G : xG) (d : xd) (w v hi9 : Int32) (x : Int32) (n : Nat) (hn : d 176 0 = nI n) (h8 : n ≤ 8) (hx : ¬ (0 ≤ x ∧ x < nI n)) : x_M G l yX12_sets wsX12_sets 3 0 0 [.ref (x_b G + 175), .int w, .int x, .int v, .int hi9] d (some (.int 0)) (g_th d 1) := by
  refine x_start (cc := cX12_sets) (maxL := 6) (ret := (some .int)) (own := RX12) (by decide) rfl rfl (Nat.le_of_ble_eq_true rfl) (lst := [(0, .ref (x_b G + 175)), (1, .int w), (2, .int x), (3, .int v), (4, .int hi9)]) rfl ?_
  intro p e s m args below meth c C hr hlocks
  refine a_aload_n C dX12_sets_0 0 rfl ?_
  refine a_iload_n C dX12_sets_1 2 rfl ?_
  refine a_callV C (k := 175) (As := [.int x]) (rest := []) (c_M_isLamp_f l G d x n hn h8 hx) (cwV 1 C.1.2.2.2.2 gX12_sets_X12_isLamp rfl rfl rfl (by decide +kernel) ⟨Nat.le_of_ble_eq_true rfl, Nat.le_of_ble_eq_true rfl⟩) x_k175 (q := (RX12, TX12, 16)) rfl rfl rfl rfl (Nat.le_of_ble_eq_true rfl) dX12_sets_2 ⟨Nat.le_of_ble_eq_true rfl, Nat.le_of_ble_eq_true rfl⟩ ?_
  refine a_if_ne C dX12_sets_5 (tgt := 14) (by decide) (fun h => absurd h (by decide)) (fun _ => ?_)
  refine a_aload_n C dX12_sets_8 0 rfl ?_
  refine a_iconst C dX12_sets_9 (v := 1) (by decide) ?_
  refine a_callV C (k := 175) (As := [.int 1]) (rest := []) (c_M_fails l G d 1) (cwV 1 C.1.2.2.2.2 gX12_sets_X12_fails rfl rfl rfl (by decide +kernel) ⟨Nat.le_of_ble_eq_true rfl, Nat.le_of_ble_eq_true rfl⟩) x_k175 (q := (RX12, TX12, 16)) rfl rfl rfl rfl (Nat.le_of_ble_eq_true rfl) dX12_sets_10 ⟨Nat.le_of_ble_eq_true rfl, Nat.le_of_ble_eq_true rfl⟩ ?_
  exact a_iret C hlocks hr dX12_sets_13 rfl rfl

set_option maxHeartbeats 1000000 in
set_option maxRecDepth 100000 in
theorem c_M_sets_2 (l : Launch) (G : xG) (d : xd) (w v hi9 : Int32) (i n : Nat) (hn : d 176 0 = nI n) (h8 : n ≤ 8) (hi : i < n) (hv : ¬ (1 ≤ v ∧ v ≤ hi9)) : x_M G l yX12_sets wsX12_sets 3 0 0 [.ref (x_b G + 175), .int w, .int (nI i), .int v, .int hi9] d (some (.int 0)) (g_th d 2) := by
  refine x_start (cc := cX12_sets) (maxL := 6) (ret := (some .int)) (own := RX12) (by decide) rfl rfl (Nat.le_of_ble_eq_true rfl) (lst := [(0, .ref (x_b G + 175)), (1, .int w), (2, .int (nI i)), (3, .int v), (4, .int hi9)]) rfl ?_
  intro p e s m args below meth c C hr hlocks
  refine a_aload_n C dX12_sets_0 0 rfl ?_
  refine a_iload_n C dX12_sets_1 2 rfl ?_
  refine a_callV C (k := 175) (As := [.int (nI i)]) (rest := []) (c_M_isLamp_t l G d i n hn h8 hi) (cwV 1 C.1.2.2.2.2 gX12_sets_X12_isLamp rfl rfl rfl (by decide +kernel) ⟨Nat.le_of_ble_eq_true rfl, Nat.le_of_ble_eq_true rfl⟩) x_k175 (q := (RX12, TX12, 16)) rfl rfl rfl rfl (Nat.le_of_ble_eq_true rfl) dX12_sets_2 ⟨Nat.le_of_ble_eq_true rfl, Nat.le_of_ble_eq_true rfl⟩ ?_
  refine a_if_ne C dX12_sets_5 (tgt := 14) (by decide) (fun _ => ?_) (fun h => absurd h (by decide))
  refine a_iload_n C dX12_sets_14 3 rfl ?_
  refine a_iconst C dX12_sets_15 (v := 1) (by decide) ?_
  refine a_iload C dX12_sets_16 4 rfl ?_
  refine a_callS C (As := [.int v, .int 1, .int hi9]) (rest := []) (c_M_in_f l G d v 1 hi9 hv) (va_cwS 3 C.1.2.2.2.2 gX12_sets_X12_in rfl rfl rfl (by decide +kernel) ⟨Nat.le_of_ble_eq_true rfl, Nat.le_of_ble_eq_true rfl⟩) rfl rfl (Nat.le_of_ble_eq_true rfl) dX12_sets_18 ⟨Nat.le_of_ble_eq_true rfl, Nat.le_of_ble_eq_true rfl⟩ ?_
  refine a_if_ne C dX12_sets_21 (tgt := 30) (by decide) (fun h => absurd h (by decide)) (fun _ => ?_)
  refine a_aload_n C dX12_sets_24 0 rfl ?_
  refine a_iconst C dX12_sets_25 (v := 2) (by decide) ?_
  refine a_callV C (k := 175) (As := [.int 2]) (rest := []) (c_M_fails l G d 2) (cwV 1 C.1.2.2.2.2 gX12_sets_X12_fails rfl rfl rfl (by decide +kernel) ⟨Nat.le_of_ble_eq_true rfl, Nat.le_of_ble_eq_true rfl⟩) x_k175 (q := (RX12, TX12, 16)) rfl rfl rfl rfl (Nat.le_of_ble_eq_true rfl) dX12_sets_26 ⟨Nat.le_of_ble_eq_true rfl, Nat.le_of_ble_eq_true rfl⟩ ?_
  exact a_iret C hlocks hr dX12_sets_29 rfl rfl

set_option maxHeartbeats 1000000 in
set_option maxRecDepth 100000 in
theorem c_M_sets (l : Launch) (G : xG) (d : xd) (w : Nat) (hw : w ≤ 72) (v hi9 : Int32) (i n : Nat) (hn : d 176 0 = nI n) (h8 : n ≤ 8) (hi : i < n) (hv : 1 ≤ v ∧ v ≤ hi9) : x_M G l yX12_sets wsX12_sets 3 0 0 [.ref (x_b G + 175), .int (nI w), .int (nI i), .int v, .int hi9] d (some (.int (d 176 (w + i)))) (g_ok d (upd (d 176) (w + i) v)) := by
  have iX12 : ∀ w ∈ u_ws RX12 TX12 16, w ∈ wsX12_sets := by decide +kernel
  refine x_start (cc := cX12_sets) (maxL := 6) (ret := (some .int)) (own := RX12) (by decide) rfl rfl (Nat.le_of_ble_eq_true rfl) (lst := [(0, .ref (x_b G + 175)), (1, .int (nI w)), (2, .int (nI i)), (3, .int v), (4, .int hi9)]) rfl ?_
  intro p e s m args below meth c C hr hlocks
  refine a_aload_n C dX12_sets_0 0 rfl ?_
  refine a_iload_n C dX12_sets_1 2 rfl ?_
  refine a_callV C (k := 175) (As := [.int (nI i)]) (rest := []) (c_M_isLamp_t l G d i n hn h8 hi) (cwV 1 C.1.2.2.2.2 gX12_sets_X12_isLamp rfl rfl rfl (by decide +kernel) ⟨Nat.le_of_ble_eq_true rfl, Nat.le_of_ble_eq_true rfl⟩) x_k175 (q := (RX12, TX12, 16)) rfl rfl rfl rfl (Nat.le_of_ble_eq_true rfl) dX12_sets_2 ⟨Nat.le_of_ble_eq_true rfl, Nat.le_of_ble_eq_true rfl⟩ ?_
  refine a_if_ne C dX12_sets_5 (tgt := 14) (by decide) (fun _ => ?_) (fun h => absurd h (by decide))
  refine a_iload_n C dX12_sets_14 3 rfl ?_
  refine a_iconst C dX12_sets_15 (v := 1) (by decide) ?_
  refine a_iload C dX12_sets_16 4 rfl ?_
  refine a_callS C (As := [.int v, .int 1, .int hi9]) (rest := []) (c_M_in_t l G d v 1 hi9 hv) (va_cwS 3 C.1.2.2.2.2 gX12_sets_X12_in rfl rfl rfl (by decide +kernel) ⟨Nat.le_of_ble_eq_true rfl, Nat.le_of_ble_eq_true rfl⟩) rfl rfl (Nat.le_of_ble_eq_true rfl) dX12_sets_18 ⟨Nat.le_of_ble_eq_true rfl, Nat.le_of_ble_eq_true rfl⟩ ?_
  refine a_if_ne C dX12_sets_21 (tgt := 30) (by decide) (fun _ => ?_) (fun h => absurd h (by decide))
  refine a_aload_n C dX12_sets_30 0 rfl ?_
  refine a_getR C (k := 175) iX12 x_k175 rfl (j := 0) rfl (by decide) (by decide +kernel) dX12_sets_31 ?_
  refine a_iload_n C dX12_sets_34 1 rfl ?_
  refine a_iload_n C dX12_sets_35 2 rfl ?_
  refine a_iadd C dX12_sets_36 ?_
  refine a_ialdN C (k := 176) x_k176 (i := w + i) (x_add2 (a := w) (b := i) rfl rfl) (by omega) (by first | decide | omega) dX12_sets_37 ?_
  refine a_istore C dX12_sets_38 (by decide) (lst2 := [(5, .int (d 176 (w + i))), (0, .ref (x_b G + 175)), (1, .int (nI w)), (2, .int (nI i)), (3, .int v), (4, .int hi9)]) rfl ?_
  refine a_aload_n C dX12_sets_40 1 rfl ?_
  refine a_getR C (k := 175) iX12 x_k175 rfl (j := 0) rfl (by decide) (by decide +kernel) dX12_sets_41 ?_
  refine a_iload_n C dX12_sets_44 2 rfl ?_
  refine a_iload_n C dX12_sets_45 3 rfl ?_
  refine a_iadd C dX12_sets_46 ?_
  refine a_iload_n C dX12_sets_47 4 rfl ?_
  refine a_iastN C (k := 176) x_k176 (i := w + i) (x_add2 (a := w) (b := i) rfl rfl) (by omega) (by first | decide | omega) dX12_sets_48 ?_
  refine a_aload_n C dX12_sets_49 1 rfl ?_
  refine a_iload C dX12_sets_50 0 rfl ?_
  refine a_callV C (k := 175) (As := [.int (d 176 (w + i))]) (rest := []) (c_M_done l G (x_p d 176 (w + i) v) (d 176 (w + i))) (cwV 1 C.1.2.2.2.2 gX12_sets_X12_done rfl rfl rfl (by decide +kernel) ⟨Nat.le_of_ble_eq_true rfl, Nat.le_of_ble_eq_true rfl⟩) x_k175 (q := (RX12, TX12, 16)) rfl rfl rfl rfl (Nat.le_of_ble_eq_true rfl) dX12_sets_52 ⟨Nat.le_of_ble_eq_true rfl, Nat.le_of_ble_eq_true rfl⟩ ?_
  exact a_iret C hlocks hr dX12_sets_55 rfl rfl

set_option maxHeartbeats 1000000 in
set_option maxRecDepth 100000 in
theorem c_M_switches_1 (l : Launch) (G : xG) (d : xd) (v : Int32) (x : Int32) (n : Nat) (hn : d 176 0 = nI n) (h8 : n ≤ 8) (hx : ¬ (0 ≤ x ∧ x < nI n)) : x_M G l yX12_switches wsX12_switches 3 0 0 [.ref (x_b G + 175), .int x, .int v] d (some (.int 0)) (g_th d 1) := by
  refine x_start (cc := cX12_switches) (maxL := 4) (ret := (some .int)) (own := RX12) (by decide) rfl rfl (Nat.le_of_ble_eq_true rfl) (lst := [(0, .ref (x_b G + 175)), (1, .int x), (2, .int v)]) rfl ?_
  intro p e s m args below meth c C hr hlocks
  refine a_aload_n C dX12_switches_0 0 rfl ?_
  refine a_iload_n C dX12_switches_1 1 rfl ?_
  refine a_callV C (k := 175) (As := [.int x]) (rest := []) (c_M_isLamp_f l G d x n hn h8 hx) (cwV 1 C.1.2.2.2.2 gX12_switches_X12_isLamp rfl rfl rfl (by decide +kernel) ⟨Nat.le_of_ble_eq_true rfl, Nat.le_of_ble_eq_true rfl⟩) x_k175 (q := (RX12, TX12, 16)) rfl rfl rfl rfl (Nat.le_of_ble_eq_true rfl) dX12_switches_2 ⟨Nat.le_of_ble_eq_true rfl, Nat.le_of_ble_eq_true rfl⟩ ?_
  refine a_if_ne C dX12_switches_5 (tgt := 14) (by decide) (fun h => absurd h (by decide)) (fun _ => ?_)
  refine a_aload_n C dX12_switches_8 0 rfl ?_
  refine a_iconst C dX12_switches_9 (v := 1) (by decide) ?_
  refine a_callV C (k := 175) (As := [.int 1]) (rest := []) (c_M_fails l G d 1) (cwV 1 C.1.2.2.2.2 gX12_switches_X12_fails rfl rfl rfl (by decide +kernel) ⟨Nat.le_of_ble_eq_true rfl, Nat.le_of_ble_eq_true rfl⟩) x_k175 (q := (RX12, TX12, 16)) rfl rfl rfl rfl (Nat.le_of_ble_eq_true rfl) dX12_switches_10 ⟨Nat.le_of_ble_eq_true rfl, Nat.le_of_ble_eq_true rfl⟩ ?_
  exact a_iret C hlocks hr dX12_switches_13 rfl rfl

set_option maxHeartbeats 1000000 in
set_option maxRecDepth 100000 in
theorem c_M_switches (l : Launch) (G : xG) (d : xd) (v : Int32) (i n : Nat) (hn : d 176 0 = nI n) (h8 : n ≤ 8) (hi : i < n) : x_M G l yX12_switches wsX12_switches 3 0 0 [.ref (x_b G + 175), .int (nI i), .int v] d (some (.int (if d 176 (30 + i) = v then 0 else 1))) (g_ok d (upd (d 176) (30 + i) v)) := by
  have iX12 : ∀ w ∈ u_ws RX12 TX12 16, w ∈ wsX12_switches := by decide +kernel
  refine x_start (cc := cX12_switches) (maxL := 4) (ret := (some .int)) (own := RX12) (by decide) rfl rfl (Nat.le_of_ble_eq_true rfl) (lst := [(0, .ref (x_b G + 175)), (1, .int (nI i)), (2, .int v)]) rfl ?_
  intro p e s m args below meth c C hr hlocks
  refine a_aload_n C dX12_switches_0 0 rfl ?_
  refine a_iload_n C dX12_switches_1 1 rfl ?_
  refine a_callV C (k := 175) (As := [.int (nI i)]) (rest := []) (c_M_isLamp_t l G d i n hn h8 hi) (cwV 1 C.1.2.2.2.2 gX12_switches_X12_isLamp rfl rfl rfl (by decide +kernel) ⟨Nat.le_of_ble_eq_true rfl, Nat.le_of_ble_eq_true rfl⟩) x_k175 (q := (RX12, TX12, 16)) rfl rfl rfl rfl (Nat.le_of_ble_eq_true rfl) dX12_switches_2 ⟨Nat.le_of_ble_eq_true rfl, Nat.le_of_ble_eq_true rfl⟩ ?_
  refine a_if_ne C dX12_switches_5 (tgt := 14) (by decide) (fun _ => ?_) (fun h => absurd h (by decide))
  refine a_aload_n C dX12_switches_14 0 rfl ?_
  refine a_getR C (k := 175) iX12 x_k175 rfl (j := 0) rfl (by decide) (by decide +kernel) dX12_switches_15 ?_
  refine a_bipush C dX12_switches_18 (v := 30) (by decide) ?_
  refine a_iload_n C dX12_switches_20 1 rfl ?_
  refine a_iadd C dX12_switches_21 ?_
  refine a_ialdN C (k := 176) x_k176 (i := 30 + i) (x_add2 (a := 30) (b := i) rfl rfl) (by omega) (by first | decide | omega) dX12_switches_22 ?_
  refine a_iload_n C dX12_switches_23 2 rfl ?_
  refine a_icmp_ne C dX12_switches_24 (tgt := 31) (by decide) (fun h24 => ?_) (fun h24 => ?_)
  · skip
    refine a_iconst C dX12_switches_31 (v := 1) (by decide) ?_
    refine a_istore_n C dX12_switches_32 (by decide) (lst2 := [(3, .int 1), (0, .ref (x_b G + 175)), (1, .int (nI i)), (2, .int v)]) rfl ?_
    refine a_aload_n C dX12_switches_33 1 rfl ?_
    refine a_getR C (k := 175) iX12 x_k175 rfl (j := 0) rfl (by decide) (by decide +kernel) dX12_switches_34 ?_
    refine a_bipush C dX12_switches_37 (v := 30) (by decide) ?_
    refine a_iload_n C dX12_switches_39 2 rfl ?_
    refine a_iadd C dX12_switches_40 ?_
    refine a_iload_n C dX12_switches_41 3 rfl ?_
    refine a_iastN C (k := 176) x_k176 (i := 30 + i) (x_add2 (a := 30) (b := i) rfl rfl) (by omega) (by first | decide | omega) dX12_switches_42 ?_
    refine a_aload_n C dX12_switches_43 1 rfl ?_
    refine a_iload_n C dX12_switches_44 0 rfl ?_
    refine a_callV C (k := 175) (As := [.int 1]) (rest := []) (c_M_done l G (x_p d 176 (30 + i) v) 1) (cwV 1 C.1.2.2.2.2 gX12_switches_X12_done rfl rfl rfl (by decide +kernel) ⟨Nat.le_of_ble_eq_true rfl, Nat.le_of_ble_eq_true rfl⟩) x_k175 (q := (RX12, TX12, 16)) rfl rfl rfl rfl (Nat.le_of_ble_eq_true rfl) dX12_switches_45 ⟨Nat.le_of_ble_eq_true rfl, Nat.le_of_ble_eq_true rfl⟩ ?_
    exact a_iret C hlocks hr dX12_switches_48 (by rw [if_neg h24]) rfl
  · skip
    refine a_iconst C dX12_switches_27 (v := 0) (by decide) ?_
    refine a_goto C dX12_switches_28 (tgt := 32) (by decide) ?_
    refine a_istore_n C dX12_switches_32 (by decide) (lst2 := [(3, .int 0), (0, .ref (x_b G + 175)), (1, .int (nI i)), (2, .int v)]) rfl ?_
    refine a_aload_n C dX12_switches_33 1 rfl ?_
    refine a_getR C (k := 175) iX12 x_k175 rfl (j := 0) rfl (by decide) (by decide +kernel) dX12_switches_34 ?_
    refine a_bipush C dX12_switches_37 (v := 30) (by decide) ?_
    refine a_iload_n C dX12_switches_39 2 rfl ?_
    refine a_iadd C dX12_switches_40 ?_
    refine a_iload_n C dX12_switches_41 3 rfl ?_
    refine a_iastN C (k := 176) x_k176 (i := 30 + i) (x_add2 (a := 30) (b := i) rfl rfl) (by omega) (by first | decide | omega) dX12_switches_42 ?_
    refine a_aload_n C dX12_switches_43 1 rfl ?_
    refine a_iload_n C dX12_switches_44 0 rfl ?_
    refine a_callV C (k := 175) (As := [.int 0]) (rest := []) (c_M_done l G (x_p d 176 (30 + i) v) 0) (cwV 1 C.1.2.2.2.2 gX12_switches_X12_done rfl rfl rfl (by decide +kernel) ⟨Nat.le_of_ble_eq_true rfl, Nat.le_of_ble_eq_true rfl⟩) x_k175 (q := (RX12, TX12, 16)) rfl rfl rfl rfl (Nat.le_of_ble_eq_true rfl) dX12_switches_45 ⟨Nat.le_of_ble_eq_true rfl, Nat.le_of_ble_eq_true rfl⟩ ?_
    exact a_iret C hlocks hr dX12_switches_48 (by rw [if_pos h24]) rfl

set_option maxHeartbeats 1000000 in
set_option maxRecDepth 100000 in
theorem c_M_lampNumber_1 (l : Launch) (G : xG) (d : xd) (w : Int32) (x : Int32) (n : Nat) (hn : d 176 0 = nI n) (h8 : n ≤ 8) (hx : ¬ (0 ≤ x ∧ x < nI n)) : x_M G l yX12_lampNumber wsX12_lampNumber 3 0 0 [.ref (x_b G + 175), .int w, .int x] d (some (.int 0)) (g_th d 1) := by
  refine x_start (cc := cX12_lampNumber) (maxL := 3) (ret := (some .int)) (own := RX12) (by decide) rfl rfl (Nat.le_of_ble_eq_true rfl) (lst := [(0, .ref (x_b G + 175)), (1, .int w), (2, .int x)]) rfl ?_
  intro p e s m args below meth c C hr hlocks
  refine a_aload_n C dX12_lampNumber_0 0 rfl ?_
  refine a_iload_n C dX12_lampNumber_1 2 rfl ?_
  refine a_callV C (k := 175) (As := [.int x]) (rest := []) (c_M_isLamp_f l G d x n hn h8 hx) (cwV 1 C.1.2.2.2.2 gX12_lampNumber_X12_isLamp rfl rfl rfl (by decide +kernel) ⟨Nat.le_of_ble_eq_true rfl, Nat.le_of_ble_eq_true rfl⟩) x_k175 (q := (RX12, TX12, 16)) rfl rfl rfl rfl (Nat.le_of_ble_eq_true rfl) dX12_lampNumber_2 ⟨Nat.le_of_ble_eq_true rfl, Nat.le_of_ble_eq_true rfl⟩ ?_
  refine a_if_eq C dX12_lampNumber_5 (tgt := 23) (by decide) (fun _ => ?_) (fun h => absurd h (by decide))
  refine a_aload_n C dX12_lampNumber_23 0 rfl ?_
  refine a_iconst C dX12_lampNumber_24 (v := 1) (by decide) ?_
  refine a_callV C (k := 175) (As := [.int 1]) (rest := []) (c_M_fails l G d 1) (cwV 1 C.1.2.2.2.2 gX12_lampNumber_X12_fails rfl rfl rfl (by decide +kernel) ⟨Nat.le_of_ble_eq_true rfl, Nat.le_of_ble_eq_true rfl⟩) x_k175 (q := (RX12, TX12, 16)) rfl rfl rfl rfl (Nat.le_of_ble_eq_true rfl) dX12_lampNumber_25 ⟨Nat.le_of_ble_eq_true rfl, Nat.le_of_ble_eq_true rfl⟩ ?_
  exact a_iret C hlocks hr dX12_lampNumber_28 rfl rfl

set_option maxHeartbeats 1000000 in
set_option maxRecDepth 100000 in
theorem c_M_lampNumber (l : Launch) (G : xG) (d : xd) (w : Nat) (hw : w ≤ 72) (i n : Nat) (hn : d 176 0 = nI n) (h8 : n ≤ 8) (hi : i < n) : x_M G l yX12_lampNumber wsX12_lampNumber 3 0 0 [.ref (x_b G + 175), .int (nI w), .int (nI i)] d (some (.int (d 176 (w + i)))) (g_th d 0) := by
  have iX12 : ∀ w ∈ u_ws RX12 TX12 16, w ∈ wsX12_lampNumber := by decide +kernel
  refine x_start (cc := cX12_lampNumber) (maxL := 3) (ret := (some .int)) (own := RX12) (by decide) rfl rfl (Nat.le_of_ble_eq_true rfl) (lst := [(0, .ref (x_b G + 175)), (1, .int (nI w)), (2, .int (nI i))]) rfl ?_
  intro p e s m args below meth c C hr hlocks
  refine a_aload_n C dX12_lampNumber_0 0 rfl ?_
  refine a_iload_n C dX12_lampNumber_1 2 rfl ?_
  refine a_callV C (k := 175) (As := [.int (nI i)]) (rest := []) (c_M_isLamp_t l G d i n hn h8 hi) (cwV 1 C.1.2.2.2.2 gX12_lampNumber_X12_isLamp rfl rfl rfl (by decide +kernel) ⟨Nat.le_of_ble_eq_true rfl, Nat.le_of_ble_eq_true rfl⟩) x_k175 (q := (RX12, TX12, 16)) rfl rfl rfl rfl (Nat.le_of_ble_eq_true rfl) dX12_lampNumber_2 ⟨Nat.le_of_ble_eq_true rfl, Nat.le_of_ble_eq_true rfl⟩ ?_
  refine a_if_eq C dX12_lampNumber_5 (tgt := 23) (by decide) (fun h => absurd h (by decide)) (fun _ => ?_)
  refine a_aload_n C dX12_lampNumber_8 0 rfl ?_
  refine a_aload_n C dX12_lampNumber_9 0 rfl ?_
  refine a_getR C (k := 175) iX12 x_k175 rfl (j := 0) rfl (by decide) (by decide +kernel) dX12_lampNumber_10 ?_
  refine a_iload_n C dX12_lampNumber_13 1 rfl ?_
  refine a_iload_n C dX12_lampNumber_14 2 rfl ?_
  refine a_iadd C dX12_lampNumber_15 ?_
  refine a_ialdN C (k := 176) x_k176 (i := w + i) (x_add2 (a := w) (b := i) rfl rfl) (by omega) (by first | decide | omega) dX12_lampNumber_16 ?_
  refine a_callV C (k := 175) (As := [.int (d 176 (w + i))]) (rest := []) (c_M_done l G d (d 176 (w + i))) (cwV 1 C.1.2.2.2.2 gX12_lampNumber_X12_done rfl rfl rfl (by decide +kernel) ⟨Nat.le_of_ble_eq_true rfl, Nat.le_of_ble_eq_true rfl⟩) x_k175 (q := (RX12, TX12, 16)) rfl rfl rfl rfl (Nat.le_of_ble_eq_true rfl) dX12_lampNumber_17 ⟨Nat.le_of_ble_eq_true rfl, Nat.le_of_ble_eq_true rfl⟩ ?_
  refine a_goto C dX12_lampNumber_20 (tgt := 28) (by decide) ?_
  exact a_iret C hlocks hr dX12_lampNumber_28 rfl rfl

set_option maxHeartbeats 1000000 in
set_option maxRecDepth 100000 in
theorem c_M_streetOf_1 (l : Launch) (G : xG) (d : xd) (x : Int32) (n : Nat) (hn : d 176 0 = nI n) (h8 : n ≤ 8) (hx : ¬ (0 ≤ x ∧ x < nI n)) : x_M G l yX12_streetOf wsX12_streetOf 4 0 0 [.ref (x_b G + 175), .int x] d (some (.int 0)) (g_th d 1) := by
  refine x_start (cc := cX12_streetOf) (maxL := 2) (ret := (some .int)) (own := RX12) (by decide) rfl rfl (Nat.le_of_ble_eq_true rfl) (lst := [(0, .ref (x_b G + 175)), (1, .int x)]) rfl ?_
  intro p e s m args below meth c C hr hlocks
  refine a_aload_n C dX12_streetOf_0 0 rfl ?_
  refine a_bipush C dX12_streetOf_1 (v := 6) (by decide) ?_
  refine a_iload_n C dX12_streetOf_3 1 rfl ?_
  refine a_callV C (k := 175) (As := [.int 6, .int x]) (rest := []) (c_M_lampNumber_1 l G d 6 x n hn h8 hx) (cwV 2 C.1.2.2.2.2 gX12_streetOf_X12_lampNumber rfl rfl rfl (by decide +kernel) ⟨Nat.le_of_ble_eq_true rfl, Nat.le_of_ble_eq_true rfl⟩) x_k175 (q := (RX12, TX12, 16)) rfl rfl rfl rfl (Nat.le_of_ble_eq_true rfl) dX12_streetOf_4 ⟨Nat.le_of_ble_eq_true rfl, Nat.le_of_ble_eq_true rfl⟩ ?_
  exact a_iret C hlocks hr dX12_streetOf_7 rfl rfl

set_option maxHeartbeats 1000000 in
set_option maxRecDepth 100000 in
theorem c_M_streetOf (l : Launch) (G : xG) (d : xd) (i n : Nat) (hn : d 176 0 = nI n) (h8 : n ≤ 8) (hi : i < n) : x_M G l yX12_streetOf wsX12_streetOf 4 0 0 [.ref (x_b G + 175), .int (nI i)] d (some (.int (d 176 (6 + i)))) (g_th d 0) := by
  refine x_start (cc := cX12_streetOf) (maxL := 2) (ret := (some .int)) (own := RX12) (by decide) rfl rfl (Nat.le_of_ble_eq_true rfl) (lst := [(0, .ref (x_b G + 175)), (1, .int (nI i))]) rfl ?_
  intro p e s m args below meth c C hr hlocks
  refine a_aload_n C dX12_streetOf_0 0 rfl ?_
  refine a_bipush C dX12_streetOf_1 (v := 6) (by decide) ?_
  refine a_iload_n C dX12_streetOf_3 1 rfl ?_
  refine a_callV C (k := 175) (As := [.int 6, .int (nI i)]) (rest := []) (c_M_lampNumber l G d 6 (by omega) i n hn h8 hi) (cwV 2 C.1.2.2.2.2 gX12_streetOf_X12_lampNumber rfl rfl rfl (by decide +kernel) ⟨Nat.le_of_ble_eq_true rfl, Nat.le_of_ble_eq_true rfl⟩) x_k175 (q := (RX12, TX12, 16)) rfl rfl rfl rfl (Nat.le_of_ble_eq_true rfl) dX12_streetOf_4 ⟨Nat.le_of_ble_eq_true rfl, Nat.le_of_ble_eq_true rfl⟩ ?_
  exact a_iret C hlocks hr dX12_streetOf_7 rfl rfl

set_option maxHeartbeats 1000000 in
set_option maxRecDepth 100000 in
theorem c_M_sharesOf_1 (l : Launch) (G : xG) (d : xd) (x : Int32) (n : Nat) (hn : d 176 0 = nI n) (h8 : n ≤ 8) (hx : ¬ (0 ≤ x ∧ x < nI n)) : x_M G l yX12_sharesOf wsX12_sharesOf 4 0 0 [.ref (x_b G + 175), .int x] d (some (.int 0)) (g_th d 1) := by
  refine x_start (cc := cX12_sharesOf) (maxL := 2) (ret := (some .int)) (own := RX12) (by decide) rfl rfl (Nat.le_of_ble_eq_true rfl) (lst := [(0, .ref (x_b G + 175)), (1, .int x)]) rfl ?_
  intro p e s m args below meth c C hr hlocks
  refine a_aload_n C dX12_sharesOf_0 0 rfl ?_
  refine a_bipush C dX12_sharesOf_1 (v := 14) (by decide) ?_
  refine a_iload_n C dX12_sharesOf_3 1 rfl ?_
  refine a_callV C (k := 175) (As := [.int 14, .int x]) (rest := []) (c_M_lampNumber_1 l G d 14 x n hn h8 hx) (cwV 2 C.1.2.2.2.2 gX12_sharesOf_X12_lampNumber rfl rfl rfl (by decide +kernel) ⟨Nat.le_of_ble_eq_true rfl, Nat.le_of_ble_eq_true rfl⟩) x_k175 (q := (RX12, TX12, 16)) rfl rfl rfl rfl (Nat.le_of_ble_eq_true rfl) dX12_sharesOf_4 ⟨Nat.le_of_ble_eq_true rfl, Nat.le_of_ble_eq_true rfl⟩ ?_
  exact a_iret C hlocks hr dX12_sharesOf_7 rfl rfl

set_option maxHeartbeats 1000000 in
set_option maxRecDepth 100000 in
theorem c_M_sharesOf (l : Launch) (G : xG) (d : xd) (i n : Nat) (hn : d 176 0 = nI n) (h8 : n ≤ 8) (hi : i < n) : x_M G l yX12_sharesOf wsX12_sharesOf 4 0 0 [.ref (x_b G + 175), .int (nI i)] d (some (.int (d 176 (14 + i)))) (g_th d 0) := by
  refine x_start (cc := cX12_sharesOf) (maxL := 2) (ret := (some .int)) (own := RX12) (by decide) rfl rfl (Nat.le_of_ble_eq_true rfl) (lst := [(0, .ref (x_b G + 175)), (1, .int (nI i))]) rfl ?_
  intro p e s m args below meth c C hr hlocks
  refine a_aload_n C dX12_sharesOf_0 0 rfl ?_
  refine a_bipush C dX12_sharesOf_1 (v := 14) (by decide) ?_
  refine a_iload_n C dX12_sharesOf_3 1 rfl ?_
  refine a_callV C (k := 175) (As := [.int 14, .int (nI i)]) (rest := []) (c_M_lampNumber l G d 14 (by omega) i n hn h8 hi) (cwV 2 C.1.2.2.2.2 gX12_sharesOf_X12_lampNumber rfl rfl rfl (by decide +kernel) ⟨Nat.le_of_ble_eq_true rfl, Nat.le_of_ble_eq_true rfl⟩) x_k175 (q := (RX12, TX12, 16)) rfl rfl rfl rfl (Nat.le_of_ble_eq_true rfl) dX12_sharesOf_4 ⟨Nat.le_of_ble_eq_true rfl, Nat.le_of_ble_eq_true rfl⟩ ?_
  exact a_iret C hlocks hr dX12_sharesOf_7 rfl rfl

set_option maxHeartbeats 1000000 in
set_option maxRecDepth 100000 in
theorem c_M_brightnessOf_1 (l : Launch) (G : xG) (d : xd) (x : Int32) (n : Nat) (hn : d 176 0 = nI n) (h8 : n ≤ 8) (hx : ¬ (0 ≤ x ∧ x < nI n)) : x_M G l yX12_brightnessOf wsX12_brightnessOf 4 0 0 [.ref (x_b G + 175), .int x] d (some (.int 0)) (g_th d 1) := by
  refine x_start (cc := cX12_brightnessOf) (maxL := 2) (ret := (some .int)) (own := RX12) (by decide) rfl rfl (Nat.le_of_ble_eq_true rfl) (lst := [(0, .ref (x_b G + 175)), (1, .int x)]) rfl ?_
  intro p e s m args below meth c C hr hlocks
  refine a_aload_n C dX12_brightnessOf_0 0 rfl ?_
  refine a_bipush C dX12_brightnessOf_1 (v := 22) (by decide) ?_
  refine a_iload_n C dX12_brightnessOf_3 1 rfl ?_
  refine a_callV C (k := 175) (As := [.int 22, .int x]) (rest := []) (c_M_lampNumber_1 l G d 22 x n hn h8 hx) (cwV 2 C.1.2.2.2.2 gX12_brightnessOf_X12_lampNumber rfl rfl rfl (by decide +kernel) ⟨Nat.le_of_ble_eq_true rfl, Nat.le_of_ble_eq_true rfl⟩) x_k175 (q := (RX12, TX12, 16)) rfl rfl rfl rfl (Nat.le_of_ble_eq_true rfl) dX12_brightnessOf_4 ⟨Nat.le_of_ble_eq_true rfl, Nat.le_of_ble_eq_true rfl⟩ ?_
  exact a_iret C hlocks hr dX12_brightnessOf_7 rfl rfl

set_option maxHeartbeats 1000000 in
set_option maxRecDepth 100000 in
theorem c_M_brightnessOf (l : Launch) (G : xG) (d : xd) (i n : Nat) (hn : d 176 0 = nI n) (h8 : n ≤ 8) (hi : i < n) : x_M G l yX12_brightnessOf wsX12_brightnessOf 4 0 0 [.ref (x_b G + 175), .int (nI i)] d (some (.int (d 176 (22 + i)))) (g_th d 0) := by
  refine x_start (cc := cX12_brightnessOf) (maxL := 2) (ret := (some .int)) (own := RX12) (by decide) rfl rfl (Nat.le_of_ble_eq_true rfl) (lst := [(0, .ref (x_b G + 175)), (1, .int (nI i))]) rfl ?_
  intro p e s m args below meth c C hr hlocks
  refine a_aload_n C dX12_brightnessOf_0 0 rfl ?_
  refine a_bipush C dX12_brightnessOf_1 (v := 22) (by decide) ?_
  refine a_iload_n C dX12_brightnessOf_3 1 rfl ?_
  refine a_callV C (k := 175) (As := [.int 22, .int (nI i)]) (rest := []) (c_M_lampNumber l G d 22 (by omega) i n hn h8 hi) (cwV 2 C.1.2.2.2.2 gX12_brightnessOf_X12_lampNumber rfl rfl rfl (by decide +kernel) ⟨Nat.le_of_ble_eq_true rfl, Nat.le_of_ble_eq_true rfl⟩) x_k175 (q := (RX12, TX12, 16)) rfl rfl rfl rfl (Nat.le_of_ble_eq_true rfl) dX12_brightnessOf_4 ⟨Nat.le_of_ble_eq_true rfl, Nat.le_of_ble_eq_true rfl⟩ ?_
  exact a_iret C hlocks hr dX12_brightnessOf_7 rfl rfl

set_option maxHeartbeats 1000000 in
set_option maxRecDepth 100000 in
theorem c_M_oilOf_1 (l : Launch) (G : xG) (d : xd) (x : Int32) (n : Nat) (hn : d 176 0 = nI n) (h8 : n ≤ 8) (hx : ¬ (0 ≤ x ∧ x < nI n)) : x_M G l yX12_oilOf wsX12_oilOf 4 0 0 [.ref (x_b G + 175), .int x] d (some (.int 0)) (g_th d 1) := by
  refine x_start (cc := cX12_oilOf) (maxL := 2) (ret := (some .int)) (own := RX12) (by decide) rfl rfl (Nat.le_of_ble_eq_true rfl) (lst := [(0, .ref (x_b G + 175)), (1, .int x)]) rfl ?_
  intro p e s m args below meth c C hr hlocks
  refine a_aload_n C dX12_oilOf_0 0 rfl ?_
  refine a_bipush C dX12_oilOf_1 (v := 38) (by decide) ?_
  refine a_iload_n C dX12_oilOf_3 1 rfl ?_
  refine a_callV C (k := 175) (As := [.int 38, .int x]) (rest := []) (c_M_lampNumber_1 l G d 38 x n hn h8 hx) (cwV 2 C.1.2.2.2.2 gX12_oilOf_X12_lampNumber rfl rfl rfl (by decide +kernel) ⟨Nat.le_of_ble_eq_true rfl, Nat.le_of_ble_eq_true rfl⟩) x_k175 (q := (RX12, TX12, 16)) rfl rfl rfl rfl (Nat.le_of_ble_eq_true rfl) dX12_oilOf_4 ⟨Nat.le_of_ble_eq_true rfl, Nat.le_of_ble_eq_true rfl⟩ ?_
  exact a_iret C hlocks hr dX12_oilOf_7 rfl rfl

set_option maxHeartbeats 1000000 in
set_option maxRecDepth 100000 in
theorem c_M_oilOf (l : Launch) (G : xG) (d : xd) (i n : Nat) (hn : d 176 0 = nI n) (h8 : n ≤ 8) (hi : i < n) : x_M G l yX12_oilOf wsX12_oilOf 4 0 0 [.ref (x_b G + 175), .int (nI i)] d (some (.int (d 176 (38 + i)))) (g_th d 0) := by
  refine x_start (cc := cX12_oilOf) (maxL := 2) (ret := (some .int)) (own := RX12) (by decide) rfl rfl (Nat.le_of_ble_eq_true rfl) (lst := [(0, .ref (x_b G + 175)), (1, .int (nI i))]) rfl ?_
  intro p e s m args below meth c C hr hlocks
  refine a_aload_n C dX12_oilOf_0 0 rfl ?_
  refine a_bipush C dX12_oilOf_1 (v := 38) (by decide) ?_
  refine a_iload_n C dX12_oilOf_3 1 rfl ?_
  refine a_callV C (k := 175) (As := [.int 38, .int (nI i)]) (rest := []) (c_M_lampNumber l G d 38 (by omega) i n hn h8 hi) (cwV 2 C.1.2.2.2.2 gX12_oilOf_X12_lampNumber rfl rfl rfl (by decide +kernel) ⟨Nat.le_of_ble_eq_true rfl, Nat.le_of_ble_eq_true rfl⟩) x_k175 (q := (RX12, TX12, 16)) rfl rfl rfl rfl (Nat.le_of_ble_eq_true rfl) dX12_oilOf_4 ⟨Nat.le_of_ble_eq_true rfl, Nat.le_of_ble_eq_true rfl⟩ ?_
  exact a_iret C hlocks hr dX12_oilOf_7 rfl rfl

set_option maxHeartbeats 1000000 in
set_option maxRecDepth 100000 in
theorem c_M_wickOf_1 (l : Launch) (G : xG) (d : xd) (x : Int32) (n : Nat) (hn : d 176 0 = nI n) (h8 : n ≤ 8) (hx : ¬ (0 ≤ x ∧ x < nI n)) : x_M G l yX12_wickOf wsX12_wickOf 4 0 0 [.ref (x_b G + 175), .int x] d (some (.int 0)) (g_th d 1) := by
  refine x_start (cc := cX12_wickOf) (maxL := 2) (ret := (some .int)) (own := RX12) (by decide) rfl rfl (Nat.le_of_ble_eq_true rfl) (lst := [(0, .ref (x_b G + 175)), (1, .int x)]) rfl ?_
  intro p e s m args below meth c C hr hlocks
  refine a_aload_n C dX12_wickOf_0 0 rfl ?_
  refine a_bipush C dX12_wickOf_1 (v := 46) (by decide) ?_
  refine a_iload_n C dX12_wickOf_3 1 rfl ?_
  refine a_callV C (k := 175) (As := [.int 46, .int x]) (rest := []) (c_M_lampNumber_1 l G d 46 x n hn h8 hx) (cwV 2 C.1.2.2.2.2 gX12_wickOf_X12_lampNumber rfl rfl rfl (by decide +kernel) ⟨Nat.le_of_ble_eq_true rfl, Nat.le_of_ble_eq_true rfl⟩) x_k175 (q := (RX12, TX12, 16)) rfl rfl rfl rfl (Nat.le_of_ble_eq_true rfl) dX12_wickOf_4 ⟨Nat.le_of_ble_eq_true rfl, Nat.le_of_ble_eq_true rfl⟩ ?_
  exact a_iret C hlocks hr dX12_wickOf_7 rfl rfl

set_option maxHeartbeats 1000000 in
set_option maxRecDepth 100000 in
theorem c_M_wickOf (l : Launch) (G : xG) (d : xd) (i n : Nat) (hn : d 176 0 = nI n) (h8 : n ≤ 8) (hi : i < n) : x_M G l yX12_wickOf wsX12_wickOf 4 0 0 [.ref (x_b G + 175), .int (nI i)] d (some (.int (d 176 (46 + i)))) (g_th d 0) := by
  refine x_start (cc := cX12_wickOf) (maxL := 2) (ret := (some .int)) (own := RX12) (by decide) rfl rfl (Nat.le_of_ble_eq_true rfl) (lst := [(0, .ref (x_b G + 175)), (1, .int (nI i))]) rfl ?_
  intro p e s m args below meth c C hr hlocks
  refine a_aload_n C dX12_wickOf_0 0 rfl ?_
  refine a_bipush C dX12_wickOf_1 (v := 46) (by decide) ?_
  refine a_iload_n C dX12_wickOf_3 1 rfl ?_
  refine a_callV C (k := 175) (As := [.int 46, .int (nI i)]) (rest := []) (c_M_lampNumber l G d 46 (by omega) i n hn h8 hi) (cwV 2 C.1.2.2.2.2 gX12_wickOf_X12_lampNumber rfl rfl rfl (by decide +kernel) ⟨Nat.le_of_ble_eq_true rfl, Nat.le_of_ble_eq_true rfl⟩) x_k175 (q := (RX12, TX12, 16)) rfl rfl rfl rfl (Nat.le_of_ble_eq_true rfl) dX12_wickOf_4 ⟨Nat.le_of_ble_eq_true rfl, Nat.le_of_ble_eq_true rfl⟩ ?_
  exact a_iret C hlocks hr dX12_wickOf_7 rfl rfl

set_option maxHeartbeats 1000000 in
set_option maxRecDepth 100000 in
theorem c_M_balanceOf_1 (l : Launch) (G : xG) (d : xd) (x : Int32) (n : Nat) (hn : d 176 0 = nI n) (h8 : n ≤ 8) (hx : ¬ (0 ≤ x ∧ x < nI n)) : x_M G l yX12_balanceOf wsX12_balanceOf 4 0 0 [.ref (x_b G + 175), .int x] d (some (.int 0)) (g_th d 1) := by
  refine x_start (cc := cX12_balanceOf) (maxL := 2) (ret := (some .int)) (own := RX12) (by decide) rfl rfl (Nat.le_of_ble_eq_true rfl) (lst := [(0, .ref (x_b G + 175)), (1, .int x)]) rfl ?_
  intro p e s m args below meth c C hr hlocks
  refine a_aload_n C dX12_balanceOf_0 0 rfl ?_
  refine a_bipush C dX12_balanceOf_1 (v := 54) (by decide) ?_
  refine a_iload_n C dX12_balanceOf_3 1 rfl ?_
  refine a_callV C (k := 175) (As := [.int 54, .int x]) (rest := []) (c_M_lampNumber_1 l G d 54 x n hn h8 hx) (cwV 2 C.1.2.2.2.2 gX12_balanceOf_X12_lampNumber rfl rfl rfl (by decide +kernel) ⟨Nat.le_of_ble_eq_true rfl, Nat.le_of_ble_eq_true rfl⟩) x_k175 (q := (RX12, TX12, 16)) rfl rfl rfl rfl (Nat.le_of_ble_eq_true rfl) dX12_balanceOf_4 ⟨Nat.le_of_ble_eq_true rfl, Nat.le_of_ble_eq_true rfl⟩ ?_
  exact a_iret C hlocks hr dX12_balanceOf_7 rfl rfl

set_option maxHeartbeats 1000000 in
set_option maxRecDepth 100000 in
theorem c_M_balanceOf (l : Launch) (G : xG) (d : xd) (i n : Nat) (hn : d 176 0 = nI n) (h8 : n ≤ 8) (hi : i < n) : x_M G l yX12_balanceOf wsX12_balanceOf 4 0 0 [.ref (x_b G + 175), .int (nI i)] d (some (.int (d 176 (54 + i)))) (g_th d 0) := by
  refine x_start (cc := cX12_balanceOf) (maxL := 2) (ret := (some .int)) (own := RX12) (by decide) rfl rfl (Nat.le_of_ble_eq_true rfl) (lst := [(0, .ref (x_b G + 175)), (1, .int (nI i))]) rfl ?_
  intro p e s m args below meth c C hr hlocks
  refine a_aload_n C dX12_balanceOf_0 0 rfl ?_
  refine a_bipush C dX12_balanceOf_1 (v := 54) (by decide) ?_
  refine a_iload_n C dX12_balanceOf_3 1 rfl ?_
  refine a_callV C (k := 175) (As := [.int 54, .int (nI i)]) (rest := []) (c_M_lampNumber l G d 54 (by omega) i n hn h8 hi) (cwV 2 C.1.2.2.2.2 gX12_balanceOf_X12_lampNumber rfl rfl rfl (by decide +kernel) ⟨Nat.le_of_ble_eq_true rfl, Nat.le_of_ble_eq_true rfl⟩) x_k175 (q := (RX12, TX12, 16)) rfl rfl rfl rfl (Nat.le_of_ble_eq_true rfl) dX12_balanceOf_4 ⟨Nat.le_of_ble_eq_true rfl, Nat.le_of_ble_eq_true rfl⟩ ?_
  exact a_iret C hlocks hr dX12_balanceOf_7 rfl rfl

set_option maxHeartbeats 1000000 in
set_option maxRecDepth 100000 in
theorem c_M_isOn_1 (l : Launch) (G : xG) (d : xd) (x : Int32) (n : Nat) (hn : d 176 0 = nI n) (h8 : n ≤ 8) (hx : ¬ (0 ≤ x ∧ x < nI n)) : x_M G l yX12_isOn wsX12_isOn 4 0 0 [.ref (x_b G + 175), .int x] d (some (.int 0)) (g_th d 1) := by
  have iX12 : ∀ w ∈ u_ws RX12 TX12 16, w ∈ wsX12_isOn := by decide +kernel
  refine x_start (cc := cX12_isOn) (maxL := 2) (ret := (some .boolean)) (own := RX12) (by decide) rfl rfl (Nat.le_of_ble_eq_true rfl) (lst := [(0, .ref (x_b G + 175)), (1, .int x)]) rfl ?_
  intro p e s m args below meth c C hr hlocks
  refine a_aload_n C dX12_isOn_0 0 rfl ?_
  refine a_bipush C dX12_isOn_1 (v := 30) (by decide) ?_
  refine a_iload_n C dX12_isOn_3 1 rfl ?_
  refine a_callV C (k := 175) (As := [.int 30, .int x]) (rest := []) (c_M_lampNumber_1 l G d 30 x n hn h8 hx) (cwV 2 C.1.2.2.2.2 gX12_isOn_X12_lampNumber rfl rfl rfl (by decide +kernel) ⟨Nat.le_of_ble_eq_true rfl, Nat.le_of_ble_eq_true rfl⟩) x_k175 (q := (RX12, TX12, 16)) rfl rfl rfl rfl (Nat.le_of_ble_eq_true rfl) dX12_isOn_4 ⟨Nat.le_of_ble_eq_true rfl, Nat.le_of_ble_eq_true rfl⟩ ?_
  refine a_if_ne C dX12_isOn_7 (tgt := 21) (by decide) (fun h => absurd h (by decide)) (fun _ => ?_)
  refine a_aload_n C dX12_isOn_10 0 rfl ?_
  refine a_getI C (k := 175) iX12 x_k175 rfl (j := 12) rfl (by decide) (by decide +kernel) dX12_isOn_11 ?_
  refine a_top (y := 1) (by first | rw [x_p_at] | rfl) ?_
  refine a_top (y := 1) rfl ?_
  refine a_if_ne C dX12_isOn_14 (tgt := 21) (by decide) (fun _ => ?_) (fun h => absurd h (by decide))
  refine a_iconst C dX12_isOn_21 (v := 0) (by decide) ?_
  exact a_zret C hlocks hr rfl dX12_isOn_22 rfl rfl

set_option maxHeartbeats 1000000 in
set_option maxRecDepth 100000 in
theorem c_M_isOn (l : Launch) (G : xG) (d : xd) (i n : Nat) (hn : d 176 0 = nI n) (h8 : n ≤ 8) (hi : i < n) : x_M G l yX12_isOn wsX12_isOn 4 0 0 [.ref (x_b G + 175), .int (nI i)] d (some (.int (x_bi (d 176 (30 + i) = 0)))) (g_th d 0) := by
  have iX12 : ∀ w ∈ u_ws RX12 TX12 16, w ∈ wsX12_isOn := by decide +kernel
  refine x_start (cc := cX12_isOn) (maxL := 2) (ret := (some .boolean)) (own := RX12) (by decide) rfl rfl (Nat.le_of_ble_eq_true rfl) (lst := [(0, .ref (x_b G + 175)), (1, .int (nI i))]) rfl ?_
  intro p e s m args below meth c C hr hlocks
  refine a_aload_n C dX12_isOn_0 0 rfl ?_
  refine a_bipush C dX12_isOn_1 (v := 30) (by decide) ?_
  refine a_iload_n C dX12_isOn_3 1 rfl ?_
  refine a_callV C (k := 175) (As := [.int 30, .int (nI i)]) (rest := []) (c_M_lampNumber l G d 30 (by omega) i n hn h8 hi) (cwV 2 C.1.2.2.2.2 gX12_isOn_X12_lampNumber rfl rfl rfl (by decide +kernel) ⟨Nat.le_of_ble_eq_true rfl, Nat.le_of_ble_eq_true rfl⟩) x_k175 (q := (RX12, TX12, 16)) rfl rfl rfl rfl (Nat.le_of_ble_eq_true rfl) dX12_isOn_4 ⟨Nat.le_of_ble_eq_true rfl, Nat.le_of_ble_eq_true rfl⟩ ?_
  refine a_if_ne C dX12_isOn_7 (tgt := 21) (by decide) (fun h7 => ?_) (fun h7 => ?_)
  · skip
    refine a_iconst C dX12_isOn_21 (v := 0) (by decide) ?_
    exact a_zret C hlocks hr rfl dX12_isOn_22 (x_bi_f h7).symm rfl
  · skip
    refine a_aload_n C dX12_isOn_10 0 rfl ?_
    refine a_getI C (k := 175) iX12 x_k175 rfl (j := 12) rfl (by decide) (by decide +kernel) dX12_isOn_11 ?_
    refine a_top (y := 0) (by first | rw [x_p_at] | rfl) ?_
    refine a_top (y := 0) rfl ?_
    refine a_if_ne C dX12_isOn_14 (tgt := 21) (by decide) (fun h => absurd h (by decide)) (fun _ => ?_)
    refine a_iconst C dX12_isOn_17 (v := 1) (by decide) ?_
    refine a_goto C dX12_isOn_18 (tgt := 22) (by decide) ?_
    exact a_zret C hlocks hr rfl dX12_isOn_22 (x_bi_t h7).symm rfl

set_option maxHeartbeats 1000000 in
set_option maxRecDepth 100000 in
theorem c_M_lampCount (l : Launch) (G : xG) (d : xd)  : x_M G l yX12_lampCount wsX12_lampCount 2 0 0 [.ref (x_b G + 175)] d (some (.int (d 176 0))) (g_th d 0) := by
  have iX12 : ∀ w ∈ u_ws RX12 TX12 16, w ∈ wsX12_lampCount := by decide +kernel
  refine x_start (cc := cX12_lampCount) (maxL := 1) (ret := (some .int)) (own := RX12) (by decide) rfl rfl (Nat.le_of_ble_eq_true rfl) (lst := [(0, .ref (x_b G + 175))]) rfl ?_
  intro p e s m args below meth c C hr hlocks
  refine a_aload_n C dX12_lampCount_0 0 rfl ?_
  refine a_aload_n C dX12_lampCount_1 0 rfl ?_
  refine a_getR C (k := 175) iX12 x_k175 rfl (j := 0) rfl (by decide) (by decide +kernel) dX12_lampCount_2 ?_
  refine a_iconst C dX12_lampCount_5 (v := 0) (by decide) ?_
  refine a_ialdN C (k := 176) x_k176 (i := 0) rfl (by decide) (by first | decide | omega) dX12_lampCount_6 ?_
  refine a_callV C (k := 175) (As := [.int (d 176 0)]) (rest := []) (c_M_done l G d (d 176 0)) (cwV 1 C.1.2.2.2.2 gX12_lampCount_X12_done rfl rfl rfl (by decide +kernel) ⟨Nat.le_of_ble_eq_true rfl, Nat.le_of_ble_eq_true rfl⟩) x_k175 (q := (RX12, TX12, 16)) rfl rfl rfl rfl (Nat.le_of_ble_eq_true rfl) dX12_lampCount_7 ⟨Nat.le_of_ble_eq_true rfl, Nat.le_of_ble_eq_true rfl⟩ ?_
  exact a_iret C hlocks hr dX12_lampCount_10 rfl rfl

set_option maxHeartbeats 1000000 in
set_option maxRecDepth 100000 in
theorem c_M_reserve (l : Launch) (G : xG) (d : xd)  : x_M G l yX12_reserve wsX12_reserve 2 0 0 [.ref (x_b G + 175)] d (some (.int (d 176 3))) (g_th d 0) := by
  have iX12 : ∀ w ∈ u_ws RX12 TX12 16, w ∈ wsX12_reserve := by decide +kernel
  refine x_start (cc := cX12_reserve) (maxL := 1) (ret := (some .int)) (own := RX12) (by decide) rfl rfl (Nat.le_of_ble_eq_true rfl) (lst := [(0, .ref (x_b G + 175))]) rfl ?_
  intro p e s m args below meth c C hr hlocks
  refine a_aload_n C dX12_reserve_0 0 rfl ?_
  refine a_aload_n C dX12_reserve_1 0 rfl ?_
  refine a_getR C (k := 175) iX12 x_k175 rfl (j := 0) rfl (by decide) (by decide +kernel) dX12_reserve_2 ?_
  refine a_iconst C dX12_reserve_5 (v := 3) (by decide) ?_
  refine a_ialdN C (k := 176) x_k176 (i := 3) rfl (by decide) (by first | decide | omega) dX12_reserve_6 ?_
  refine a_callV C (k := 175) (As := [.int (d 176 3)]) (rest := []) (c_M_done l G d (d 176 3)) (cwV 1 C.1.2.2.2.2 gX12_reserve_X12_done rfl rfl rfl (by decide +kernel) ⟨Nat.le_of_ble_eq_true rfl, Nat.le_of_ble_eq_true rfl⟩) x_k175 (q := (RX12, TX12, 16)) rfl rfl rfl rfl (Nat.le_of_ble_eq_true rfl) dX12_reserve_7 ⟨Nat.le_of_ble_eq_true rfl, Nat.le_of_ble_eq_true rfl⟩ ?_
  exact a_iret C hlocks hr dX12_reserve_10 rfl rfl

set_option maxHeartbeats 1000000 in
set_option maxRecDepth 100000 in
theorem c_M_pool (l : Launch) (G : xG) (d : xd)  : x_M G l yX12_pool wsX12_pool 2 0 0 [.ref (x_b G + 175)] d (some (.int (d 176 4))) (g_th d 0) := by
  have iX12 : ∀ w ∈ u_ws RX12 TX12 16, w ∈ wsX12_pool := by decide +kernel
  refine x_start (cc := cX12_pool) (maxL := 1) (ret := (some .int)) (own := RX12) (by decide) rfl rfl (Nat.le_of_ble_eq_true rfl) (lst := [(0, .ref (x_b G + 175))]) rfl ?_
  intro p e s m args below meth c C hr hlocks
  refine a_aload_n C dX12_pool_0 0 rfl ?_
  refine a_aload_n C dX12_pool_1 0 rfl ?_
  refine a_getR C (k := 175) iX12 x_k175 rfl (j := 0) rfl (by decide) (by decide +kernel) dX12_pool_2 ?_
  refine a_iconst C dX12_pool_5 (v := 4) (by decide) ?_
  refine a_ialdN C (k := 176) x_k176 (i := 4) rfl (by decide) (by first | decide | omega) dX12_pool_6 ?_
  refine a_callV C (k := 175) (As := [.int (d 176 4)]) (rest := []) (c_M_done l G d (d 176 4)) (cwV 1 C.1.2.2.2.2 gX12_pool_X12_done rfl rfl rfl (by decide +kernel) ⟨Nat.le_of_ble_eq_true rfl, Nat.le_of_ble_eq_true rfl⟩) x_k175 (q := (RX12, TX12, 16)) rfl rfl rfl rfl (Nat.le_of_ble_eq_true rfl) dX12_pool_7 ⟨Nat.le_of_ble_eq_true rfl, Nat.le_of_ble_eq_true rfl⟩ ?_
  exact a_iret C hlocks hr dX12_pool_10 rfl rfl

set_option maxHeartbeats 1000000 in
set_option maxRecDepth 100000 in
theorem c_M_treasury (l : Launch) (G : xG) (d : xd)  : x_M G l yX12_treasury wsX12_treasury 2 0 0 [.ref (x_b G + 175)] d (some (.int (d 176 5))) (g_th d 0) := by
  have iX12 : ∀ w ∈ u_ws RX12 TX12 16, w ∈ wsX12_treasury := by decide +kernel
  refine x_start (cc := cX12_treasury) (maxL := 1) (ret := (some .int)) (own := RX12) (by decide) rfl rfl (Nat.le_of_ble_eq_true rfl) (lst := [(0, .ref (x_b G + 175))]) rfl ?_
  intro p e s m args below meth c C hr hlocks
  refine a_aload_n C dX12_treasury_0 0 rfl ?_
  refine a_aload_n C dX12_treasury_1 0 rfl ?_
  refine a_getR C (k := 175) iX12 x_k175 rfl (j := 0) rfl (by decide) (by decide +kernel) dX12_treasury_2 ?_
  refine a_iconst C dX12_treasury_5 (v := 5) (by decide) ?_
  refine a_ialdN C (k := 176) x_k176 (i := 5) rfl (by decide) (by first | decide | omega) dX12_treasury_6 ?_
  refine a_callV C (k := 175) (As := [.int (d 176 5)]) (rest := []) (c_M_done l G d (d 176 5)) (cwV 1 C.1.2.2.2.2 gX12_treasury_X12_done rfl rfl rfl (by decide +kernel) ⟨Nat.le_of_ble_eq_true rfl, Nat.le_of_ble_eq_true rfl⟩) x_k175 (q := (RX12, TX12, 16)) rfl rfl rfl rfl (Nat.le_of_ble_eq_true rfl) dX12_treasury_7 ⟨Nat.le_of_ble_eq_true rfl, Nat.le_of_ble_eq_true rfl⟩ ?_
  exact a_iret C hlocks hr dX12_treasury_10 rfl rfl

set_option maxHeartbeats 1000000 in
set_option maxRecDepth 100000 in
theorem c_M_mothCount (l : Launch) (G : xG) (d : xd)  : x_M G l yX12_mothCount wsX12_mothCount 2 0 0 [.ref (x_b G + 175)] d (some (.int (d 176 1))) (g_th d 0) := by
  have iX12 : ∀ w ∈ u_ws RX12 TX12 16, w ∈ wsX12_mothCount := by decide +kernel
  refine x_start (cc := cX12_mothCount) (maxL := 1) (ret := (some .int)) (own := RX12) (by decide) rfl rfl (Nat.le_of_ble_eq_true rfl) (lst := [(0, .ref (x_b G + 175))]) rfl ?_
  intro p e s m args below meth c C hr hlocks
  refine a_aload_n C dX12_mothCount_0 0 rfl ?_
  refine a_aload_n C dX12_mothCount_1 0 rfl ?_
  refine a_getR C (k := 175) iX12 x_k175 rfl (j := 0) rfl (by decide) (by decide +kernel) dX12_mothCount_2 ?_
  refine a_iconst C dX12_mothCount_5 (v := 1) (by decide) ?_
  refine a_ialdN C (k := 176) x_k176 (i := 1) rfl (by decide) (by first | decide | omega) dX12_mothCount_6 ?_
  refine a_callV C (k := 175) (As := [.int (d 176 1)]) (rest := []) (c_M_done l G d (d 176 1)) (cwV 1 C.1.2.2.2.2 gX12_mothCount_X12_done rfl rfl rfl (by decide +kernel) ⟨Nat.le_of_ble_eq_true rfl, Nat.le_of_ble_eq_true rfl⟩) x_k175 (q := (RX12, TX12, 16)) rfl rfl rfl rfl (Nat.le_of_ble_eq_true rfl) dX12_mothCount_7 ⟨Nat.le_of_ble_eq_true rfl, Nat.le_of_ble_eq_true rfl⟩ ?_
  exact a_iret C hlocks hr dX12_mothCount_10 rfl rfl

set_option maxHeartbeats 1000000 in
set_option maxRecDepth 100000 in
theorem c_M_nightCount (l : Launch) (G : xG) (d : xd)  : x_M G l yX12_nightCount wsX12_nightCount 2 0 0 [.ref (x_b G + 175)] d (some (.int (d 176 2))) (g_th d 0) := by
  have iX12 : ∀ w ∈ u_ws RX12 TX12 16, w ∈ wsX12_nightCount := by decide +kernel
  refine x_start (cc := cX12_nightCount) (maxL := 1) (ret := (some .int)) (own := RX12) (by decide) rfl rfl (Nat.le_of_ble_eq_true rfl) (lst := [(0, .ref (x_b G + 175))]) rfl ?_
  intro p e s m args below meth c C hr hlocks
  refine a_aload_n C dX12_nightCount_0 0 rfl ?_
  refine a_aload_n C dX12_nightCount_1 0 rfl ?_
  refine a_getR C (k := 175) iX12 x_k175 rfl (j := 0) rfl (by decide) (by decide +kernel) dX12_nightCount_2 ?_
  refine a_iconst C dX12_nightCount_5 (v := 2) (by decide) ?_
  refine a_ialdN C (k := 176) x_k176 (i := 2) rfl (by decide) (by first | decide | omega) dX12_nightCount_6 ?_
  refine a_callV C (k := 175) (As := [.int (d 176 2)]) (rest := []) (c_M_done l G d (d 176 2)) (cwV 1 C.1.2.2.2.2 gX12_nightCount_X12_done rfl rfl rfl (by decide +kernel) ⟨Nat.le_of_ble_eq_true rfl, Nat.le_of_ble_eq_true rfl⟩) x_k175 (q := (RX12, TX12, 16)) rfl rfl rfl rfl (Nat.le_of_ble_eq_true rfl) dX12_nightCount_7 ⟨Nat.le_of_ble_eq_true rfl, Nat.le_of_ble_eq_true rfl⟩ ?_
  exact a_iret C hlocks hr dX12_nightCount_10 rfl rfl

set_option maxHeartbeats 1000000 in
set_option maxRecDepth 100000 in
theorem c_M_buys_1 (l : Launch) (G : xG) (d : xd) (u : Int32) (x : Int32) (n : Nat) (hn : d 176 0 = nI n) (h8 : n ≤ 8) (hx : ¬ (0 ≤ x ∧ x < nI n)) : x_M G l yX12_buys wsX12_buys 3 0 0 [.ref (x_b G + 175), .int x, .int u] d (some (.int 0)) (g_th d 1) := by
  refine x_start (cc := cX12_buys) (maxL := 3) (ret := (some .int)) (own := RX12) (by decide) rfl rfl (Nat.le_of_ble_eq_true rfl) (lst := [(0, .ref (x_b G + 175)), (1, .int x), (2, .int u)]) rfl ?_
  intro p e s m args below meth c C hr hlocks
  refine a_aload_n C dX12_buys_0 0 rfl ?_
  refine a_iload_n C dX12_buys_1 1 rfl ?_
  refine a_callV C (k := 175) (As := [.int x]) (rest := []) (c_M_isLamp_f l G d x n hn h8 hx) (cwV 1 C.1.2.2.2.2 gX12_buys_X12_isLamp rfl rfl rfl (by decide +kernel) ⟨Nat.le_of_ble_eq_true rfl, Nat.le_of_ble_eq_true rfl⟩) x_k175 (q := (RX12, TX12, 16)) rfl rfl rfl rfl (Nat.le_of_ble_eq_true rfl) dX12_buys_2 ⟨Nat.le_of_ble_eq_true rfl, Nat.le_of_ble_eq_true rfl⟩ ?_
  refine a_if_ne C dX12_buys_5 (tgt := 14) (by decide) (fun h => absurd h (by decide)) (fun _ => ?_)
  refine a_aload_n C dX12_buys_8 0 rfl ?_
  refine a_iconst C dX12_buys_9 (v := 1) (by decide) ?_
  refine a_callV C (k := 175) (As := [.int 1]) (rest := []) (c_M_fails l G d 1) (cwV 1 C.1.2.2.2.2 gX12_buys_X12_fails rfl rfl rfl (by decide +kernel) ⟨Nat.le_of_ble_eq_true rfl, Nat.le_of_ble_eq_true rfl⟩) x_k175 (q := (RX12, TX12, 16)) rfl rfl rfl rfl (Nat.le_of_ble_eq_true rfl) dX12_buys_10 ⟨Nat.le_of_ble_eq_true rfl, Nat.le_of_ble_eq_true rfl⟩ ?_
  exact a_iret C hlocks hr dX12_buys_13 rfl rfl

set_option maxHeartbeats 1000000 in
set_option maxRecDepth 100000 in
theorem c_M_buys_2 (l : Launch) (G : xG) (d : xd) (u : Int32) (i n : Nat) (hn : d 176 0 = nI n) (h8 : n ≤ 8) (hi : i < n) (hu : ¬ (1 ≤ u ∧ u ≤ 60)) : x_M G l yX12_buys wsX12_buys 3 0 0 [.ref (x_b G + 175), .int (nI i), .int u] d (some (.int 0)) (g_th d 2) := by
  refine x_start (cc := cX12_buys) (maxL := 3) (ret := (some .int)) (own := RX12) (by decide) rfl rfl (Nat.le_of_ble_eq_true rfl) (lst := [(0, .ref (x_b G + 175)), (1, .int (nI i)), (2, .int u)]) rfl ?_
  intro p e s m args below meth c C hr hlocks
  refine a_aload_n C dX12_buys_0 0 rfl ?_
  refine a_iload_n C dX12_buys_1 1 rfl ?_
  refine a_callV C (k := 175) (As := [.int (nI i)]) (rest := []) (c_M_isLamp_t l G d i n hn h8 hi) (cwV 1 C.1.2.2.2.2 gX12_buys_X12_isLamp rfl rfl rfl (by decide +kernel) ⟨Nat.le_of_ble_eq_true rfl, Nat.le_of_ble_eq_true rfl⟩) x_k175 (q := (RX12, TX12, 16)) rfl rfl rfl rfl (Nat.le_of_ble_eq_true rfl) dX12_buys_2 ⟨Nat.le_of_ble_eq_true rfl, Nat.le_of_ble_eq_true rfl⟩ ?_
  refine a_if_ne C dX12_buys_5 (tgt := 14) (by decide) (fun _ => ?_) (fun h => absurd h (by decide))
  refine a_iload_n C dX12_buys_14 2 rfl ?_
  refine a_iconst C dX12_buys_15 (v := 1) (by decide) ?_
  refine a_bipush C dX12_buys_16 (v := 60) (by decide) ?_
  refine a_callS C (As := [.int u, .int 1, .int 60]) (rest := []) (c_M_in_f l G d u 1 60 hu) (va_cwS 3 C.1.2.2.2.2 gX12_buys_X12_in rfl rfl rfl (by decide +kernel) ⟨Nat.le_of_ble_eq_true rfl, Nat.le_of_ble_eq_true rfl⟩) rfl rfl (Nat.le_of_ble_eq_true rfl) dX12_buys_18 ⟨Nat.le_of_ble_eq_true rfl, Nat.le_of_ble_eq_true rfl⟩ ?_
  refine a_if_ne C dX12_buys_21 (tgt := 30) (by decide) (fun h => absurd h (by decide)) (fun _ => ?_)
  refine a_aload_n C dX12_buys_24 0 rfl ?_
  refine a_iconst C dX12_buys_25 (v := 2) (by decide) ?_
  refine a_callV C (k := 175) (As := [.int 2]) (rest := []) (c_M_fails l G d 2) (cwV 1 C.1.2.2.2.2 gX12_buys_X12_fails rfl rfl rfl (by decide +kernel) ⟨Nat.le_of_ble_eq_true rfl, Nat.le_of_ble_eq_true rfl⟩) x_k175 (q := (RX12, TX12, 16)) rfl rfl rfl rfl (Nat.le_of_ble_eq_true rfl) dX12_buys_26 ⟨Nat.le_of_ble_eq_true rfl, Nat.le_of_ble_eq_true rfl⟩ ?_
  exact a_iret C hlocks hr dX12_buys_29 rfl rfl

set_option maxHeartbeats 1000000 in
set_option maxRecDepth 100000 in
theorem c_M_buys_3 (l : Launch) (G : xG) (d : xd) (u : Int32) (i n : Nat) (hn : d 176 0 = nI n) (h8 : n ≤ 8) (hi : i < n) (hu : 1 ≤ u ∧ u ≤ 60) (hc : ¬ (¬ d 176 3 < u ∧ d 176 (38 + i) + u ≤ 60 ∧ ¬ d 176 (54 + i) < u)) : x_M G l yX12_buys wsX12_buys 3 0 0 [.ref (x_b G + 175), .int (nI i), .int u] d (some (.int 0)) (g_th d 3) := by
  have iX12 : ∀ w ∈ u_ws RX12 TX12 16, w ∈ wsX12_buys := by decide +kernel
  refine x_start (cc := cX12_buys) (maxL := 3) (ret := (some .int)) (own := RX12) (by decide) rfl rfl (Nat.le_of_ble_eq_true rfl) (lst := [(0, .ref (x_b G + 175)), (1, .int (nI i)), (2, .int u)]) rfl ?_
  intro p e s m args below meth c C hr hlocks
  refine a_aload_n C dX12_buys_0 0 rfl ?_
  refine a_iload_n C dX12_buys_1 1 rfl ?_
  refine a_callV C (k := 175) (As := [.int (nI i)]) (rest := []) (c_M_isLamp_t l G d i n hn h8 hi) (cwV 1 C.1.2.2.2.2 gX12_buys_X12_isLamp rfl rfl rfl (by decide +kernel) ⟨Nat.le_of_ble_eq_true rfl, Nat.le_of_ble_eq_true rfl⟩) x_k175 (q := (RX12, TX12, 16)) rfl rfl rfl rfl (Nat.le_of_ble_eq_true rfl) dX12_buys_2 ⟨Nat.le_of_ble_eq_true rfl, Nat.le_of_ble_eq_true rfl⟩ ?_
  refine a_if_ne C dX12_buys_5 (tgt := 14) (by decide) (fun _ => ?_) (fun h => absurd h (by decide))
  refine a_iload_n C dX12_buys_14 2 rfl ?_
  refine a_iconst C dX12_buys_15 (v := 1) (by decide) ?_
  refine a_bipush C dX12_buys_16 (v := 60) (by decide) ?_
  refine a_callS C (As := [.int u, .int 1, .int 60]) (rest := []) (c_M_in_t l G d u 1 60 hu) (va_cwS 3 C.1.2.2.2.2 gX12_buys_X12_in rfl rfl rfl (by decide +kernel) ⟨Nat.le_of_ble_eq_true rfl, Nat.le_of_ble_eq_true rfl⟩) rfl rfl (Nat.le_of_ble_eq_true rfl) dX12_buys_18 ⟨Nat.le_of_ble_eq_true rfl, Nat.le_of_ble_eq_true rfl⟩ ?_
  refine a_if_ne C dX12_buys_21 (tgt := 30) (by decide) (fun _ => ?_) (fun h => absurd h (by decide))
  refine a_aload_n C dX12_buys_30 0 rfl ?_
  refine a_getR C (k := 175) iX12 x_k175 rfl (j := 0) rfl (by decide) (by decide +kernel) dX12_buys_31 ?_
  refine a_iconst C dX12_buys_34 (v := 3) (by decide) ?_
  refine a_ialdN C (k := 176) x_k176 (i := 3) rfl (by decide) (by first | decide | omega) dX12_buys_35 ?_
  refine a_iload_n C dX12_buys_36 2 rfl ?_
  refine a_icmp_lt C dX12_buys_37 (tgt := 69) (by decide) (fun h37 => ?_) (fun h37 => ?_)
  · skip
    refine a_aload_n C dX12_buys_69 0 rfl ?_
    refine a_iconst C dX12_buys_70 (v := 3) (by decide) ?_
    refine a_callV C (k := 175) (As := [.int 3]) (rest := []) (c_M_fails l G d 3) (cwV 1 C.1.2.2.2.2 gX12_buys_X12_fails rfl rfl rfl (by decide +kernel) ⟨Nat.le_of_ble_eq_true rfl, Nat.le_of_ble_eq_true rfl⟩) x_k175 (q := (RX12, TX12, 16)) rfl rfl rfl rfl (Nat.le_of_ble_eq_true rfl) dX12_buys_71 ⟨Nat.le_of_ble_eq_true rfl, Nat.le_of_ble_eq_true rfl⟩ ?_
    exact a_iret C hlocks hr dX12_buys_74 rfl rfl
  · skip
    refine a_aload_n C dX12_buys_40 0 rfl ?_
    refine a_getR C (k := 175) iX12 x_k175 rfl (j := 0) rfl (by decide) (by decide +kernel) dX12_buys_41 ?_
    refine a_bipush C dX12_buys_44 (v := 38) (by decide) ?_
    refine a_iload_n C dX12_buys_46 1 rfl ?_
    refine a_iadd C dX12_buys_47 ?_
    refine a_ialdN C (k := 176) x_k176 (i := 38 + i) (x_add2 (a := 38) (b := i) rfl rfl) (by omega) (by first | decide | omega) dX12_buys_48 ?_
    refine a_iload_n C dX12_buys_49 2 rfl ?_
    refine a_iadd C dX12_buys_50 ?_
    refine a_bipush C dX12_buys_51 (v := 60) (by decide) ?_
    refine a_icmp_gt C dX12_buys_53 (tgt := 69) (by decide) (fun h53 => ?_) (fun h53 => ?_)
    · skip
      refine a_aload_n C dX12_buys_69 0 rfl ?_
      refine a_iconst C dX12_buys_70 (v := 3) (by decide) ?_
      refine a_callV C (k := 175) (As := [.int 3]) (rest := []) (c_M_fails l G d 3) (cwV 1 C.1.2.2.2.2 gX12_buys_X12_fails rfl rfl rfl (by decide +kernel) ⟨Nat.le_of_ble_eq_true rfl, Nat.le_of_ble_eq_true rfl⟩) x_k175 (q := (RX12, TX12, 16)) rfl rfl rfl rfl (Nat.le_of_ble_eq_true rfl) dX12_buys_71 ⟨Nat.le_of_ble_eq_true rfl, Nat.le_of_ble_eq_true rfl⟩ ?_
      exact a_iret C hlocks hr dX12_buys_74 rfl rfl
    · skip
      refine a_aload_n C dX12_buys_56 0 rfl ?_
      refine a_getR C (k := 175) iX12 x_k175 rfl (j := 0) rfl (by decide) (by decide +kernel) dX12_buys_57 ?_
      refine a_bipush C dX12_buys_60 (v := 54) (by decide) ?_
      refine a_iload_n C dX12_buys_62 1 rfl ?_
      refine a_iadd C dX12_buys_63 ?_
      refine a_ialdN C (k := 176) x_k176 (i := 54 + i) (x_add2 (a := 54) (b := i) rfl rfl) (by omega) (by first | decide | omega) dX12_buys_64 ?_
      refine a_iload_n C dX12_buys_65 2 rfl ?_
      refine a_icmp_ge C dX12_buys_66 (tgt := 75) (by decide) (fun h66 => ?_) (fun h66 => ?_)
      · skip
        exact (hc ⟨h37, Int32.not_lt.mp h53, Int32.not_lt.mpr h66⟩).elim
      · skip
        refine a_aload_n C dX12_buys_69 0 rfl ?_
        refine a_iconst C dX12_buys_70 (v := 3) (by decide) ?_
        refine a_callV C (k := 175) (As := [.int 3]) (rest := []) (c_M_fails l G d 3) (cwV 1 C.1.2.2.2.2 gX12_buys_X12_fails rfl rfl rfl (by decide +kernel) ⟨Nat.le_of_ble_eq_true rfl, Nat.le_of_ble_eq_true rfl⟩) x_k175 (q := (RX12, TX12, 16)) rfl rfl rfl rfl (Nat.le_of_ble_eq_true rfl) dX12_buys_71 ⟨Nat.le_of_ble_eq_true rfl, Nat.le_of_ble_eq_true rfl⟩ ?_
        exact a_iret C hlocks hr dX12_buys_74 rfl rfl

def g_buys (z : Nat → Int32) (u : Int32) (i : Nat) : Nat → Int32 := upd (upd (upd (upd (z) (3) (((z 3) - u))) (38 + i) (((z (38 + i)) + u))) (54 + i) (((z (54 + i)) - u))) (5) (((z 5) + u))
set_option maxHeartbeats 1000000 in
set_option maxRecDepth 100000 in
theorem c_M_buys (l : Launch) (G : xG) (d : xd) (u : Int32) (i n : Nat) (hn : d 176 0 = nI n) (h8 : n ≤ 8) (hi : i < n) (hu : 1 ≤ u ∧ u ≤ 60) (hc :  (¬ d 176 3 < u ∧ d 176 (38 + i) + u ≤ 60 ∧ ¬ d 176 (54 + i) < u)) : x_M G l yX12_buys wsX12_buys 3 0 0 [.ref (x_b G + 175), .int (nI i), .int u] d (some (.int (d 176 (38 + i) + u))) (g_ok d (g_buys (d 176) u i)) := by
  have iX12 : ∀ w ∈ u_ws RX12 TX12 16, w ∈ wsX12_buys := by decide +kernel
  refine x_start (cc := cX12_buys) (maxL := 3) (ret := (some .int)) (own := RX12) (by decide) rfl rfl (Nat.le_of_ble_eq_true rfl) (lst := [(0, .ref (x_b G + 175)), (1, .int (nI i)), (2, .int u)]) rfl ?_
  intro p e s m args below meth c C hr hlocks
  refine a_aload_n C dX12_buys_0 0 rfl ?_
  refine a_iload_n C dX12_buys_1 1 rfl ?_
  refine a_callV C (k := 175) (As := [.int (nI i)]) (rest := []) (c_M_isLamp_t l G d i n hn h8 hi) (cwV 1 C.1.2.2.2.2 gX12_buys_X12_isLamp rfl rfl rfl (by decide +kernel) ⟨Nat.le_of_ble_eq_true rfl, Nat.le_of_ble_eq_true rfl⟩) x_k175 (q := (RX12, TX12, 16)) rfl rfl rfl rfl (Nat.le_of_ble_eq_true rfl) dX12_buys_2 ⟨Nat.le_of_ble_eq_true rfl, Nat.le_of_ble_eq_true rfl⟩ ?_
  refine a_if_ne C dX12_buys_5 (tgt := 14) (by decide) (fun _ => ?_) (fun h => absurd h (by decide))
  refine a_iload_n C dX12_buys_14 2 rfl ?_
  refine a_iconst C dX12_buys_15 (v := 1) (by decide) ?_
  refine a_bipush C dX12_buys_16 (v := 60) (by decide) ?_
  refine a_callS C (As := [.int u, .int 1, .int 60]) (rest := []) (c_M_in_t l G d u 1 60 hu) (va_cwS 3 C.1.2.2.2.2 gX12_buys_X12_in rfl rfl rfl (by decide +kernel) ⟨Nat.le_of_ble_eq_true rfl, Nat.le_of_ble_eq_true rfl⟩) rfl rfl (Nat.le_of_ble_eq_true rfl) dX12_buys_18 ⟨Nat.le_of_ble_eq_true rfl, Nat.le_of_ble_eq_true rfl⟩ ?_
  refine a_if_ne C dX12_buys_21 (tgt := 30) (by decide) (fun _ => ?_) (fun h => absurd h (by decide))
  refine a_aload_n C dX12_buys_30 0 rfl ?_
  refine a_getR C (k := 175) iX12 x_k175 rfl (j := 0) rfl (by decide) (by decide +kernel) dX12_buys_31 ?_
  refine a_iconst C dX12_buys_34 (v := 3) (by decide) ?_
  refine a_ialdN C (k := 176) x_k176 (i := 3) rfl (by decide) (by first | decide | omega) dX12_buys_35 ?_
  refine a_iload_n C dX12_buys_36 2 rfl ?_
  refine a_icmp_lt C dX12_buys_37 (tgt := 69) (by decide) (fun h => absurd h (hc.1)) (fun h37 => ?_)
  refine a_aload_n C dX12_buys_40 0 rfl ?_
  refine a_getR C (k := 175) iX12 x_k175 rfl (j := 0) rfl (by decide) (by decide +kernel) dX12_buys_41 ?_
  refine a_bipush C dX12_buys_44 (v := 38) (by decide) ?_
  refine a_iload_n C dX12_buys_46 1 rfl ?_
  refine a_iadd C dX12_buys_47 ?_
  refine a_ialdN C (k := 176) x_k176 (i := 38 + i) (x_add2 (a := 38) (b := i) rfl rfl) (by omega) (by first | decide | omega) dX12_buys_48 ?_
  refine a_iload_n C dX12_buys_49 2 rfl ?_
  refine a_iadd C dX12_buys_50 ?_
  refine a_bipush C dX12_buys_51 (v := 60) (by decide) ?_
  refine a_icmp_gt C dX12_buys_53 (tgt := 69) (by decide) (fun h => absurd h (Int32.not_lt.mpr hc.2.1)) (fun h53 => ?_)
  refine a_aload_n C dX12_buys_56 0 rfl ?_
  refine a_getR C (k := 175) iX12 x_k175 rfl (j := 0) rfl (by decide) (by decide +kernel) dX12_buys_57 ?_
  refine a_bipush C dX12_buys_60 (v := 54) (by decide) ?_
  refine a_iload_n C dX12_buys_62 1 rfl ?_
  refine a_iadd C dX12_buys_63 ?_
  refine a_ialdN C (k := 176) x_k176 (i := 54 + i) (x_add2 (a := 54) (b := i) rfl rfl) (by omega) (by first | decide | omega) dX12_buys_64 ?_
  refine a_iload_n C dX12_buys_65 2 rfl ?_
  refine a_icmp_ge C dX12_buys_66 (tgt := 75) (by decide) (fun h66 => ?_) (fun h => False.elim (hc.2.2 (Int32.not_le.mp h)))
  refine a_aload_n C dX12_buys_75 0 rfl ?_
  refine a_getR C (k := 175) iX12 x_k175 rfl (j := 0) rfl (by decide) (by decide +kernel) dX12_buys_76 ?_
  refine a_iconst C dX12_buys_79 (v := 3) (by decide) ?_
  refine a_dup2 C dX12_buys_80 rfl rfl ?_
  refine a_ialdN C (k := 176) x_k176 (i := 3) rfl (by decide) (by first | decide | omega) dX12_buys_81 ?_
  refine a_iload_n C dX12_buys_82 2 rfl ?_
  refine a_isub C dX12_buys_83 ?_
  refine a_iastN C (k := 176) x_k176 (i := 3) rfl (by decide) (by first | decide | omega) dX12_buys_84 ?_
  refine a_aload_n C dX12_buys_85 0 rfl ?_
  refine a_getR C (k := 175) iX12 x_k175 rfl (j := 0) rfl (by decide) (by decide +kernel) dX12_buys_86 ?_
  refine a_bipush C dX12_buys_89 (v := 38) (by decide) ?_
  refine a_iload_n C dX12_buys_91 1 rfl ?_
  refine a_iadd C dX12_buys_92 ?_
  refine a_dup2 C dX12_buys_93 rfl rfl ?_
  refine a_ialdN C (k := 176) x_k176 (i := 38 + i) (x_add2 (a := 38) (b := i) rfl rfl) (by omega) (by first | decide | omega) dX12_buys_94 ?_
  refine a_top (y := (d 176 (38 + i))) (by first | rw [x_p_row (by omega)] | rfl) ?_
  refine a_iload_n C dX12_buys_95 2 rfl ?_
  refine a_iadd C dX12_buys_96 ?_
  refine a_iastN C (k := 176) x_k176 (i := 38 + i) (x_add2 (a := 38) (b := i) rfl rfl) (by omega) (by first | decide | omega) dX12_buys_97 ?_
  refine a_aload_n C dX12_buys_98 0 rfl ?_
  refine a_getR C (k := 175) iX12 x_k175 rfl (j := 0) rfl (by decide) (by decide +kernel) dX12_buys_99 ?_
  refine a_bipush C dX12_buys_102 (v := 54) (by decide) ?_
  refine a_iload_n C dX12_buys_104 1 rfl ?_
  refine a_iadd C dX12_buys_105 ?_
  refine a_dup2 C dX12_buys_106 rfl rfl ?_
  refine a_ialdN C (k := 176) x_k176 (i := 54 + i) (x_add2 (a := 54) (b := i) rfl rfl) (by omega) (by first | decide | omega) dX12_buys_107 ?_
  refine a_top (y := (d 176 (54 + i))) (by first | rw [x_p_row (by omega), x_p_row (by omega)] | rfl) ?_
  refine a_iload_n C dX12_buys_108 2 rfl ?_
  refine a_isub C dX12_buys_109 ?_
  refine a_iastN C (k := 176) x_k176 (i := 54 + i) (x_add2 (a := 54) (b := i) rfl rfl) (by omega) (by first | decide | omega) dX12_buys_110 ?_
  refine a_aload_n C dX12_buys_111 0 rfl ?_
  refine a_getR C (k := 175) iX12 x_k175 rfl (j := 0) rfl (by decide) (by decide +kernel) dX12_buys_112 ?_
  refine a_iconst C dX12_buys_115 (v := 5) (by decide) ?_
  refine a_dup2 C dX12_buys_116 rfl rfl ?_
  refine a_ialdN C (k := 176) x_k176 (i := 5) rfl (by decide) (by first | decide | omega) dX12_buys_117 ?_
  refine a_top (y := (d 176 5)) (by first | rw [x_p_row (by omega), x_p_row (by omega), x_p_row (by omega)] | rfl) ?_
  refine a_iload_n C dX12_buys_118 2 rfl ?_
  refine a_iadd C dX12_buys_119 ?_
  refine a_iastN C (k := 176) x_k176 (i := 5) rfl (by decide) (by first | decide | omega) dX12_buys_120 ?_
  refine a_aload_n C dX12_buys_121 0 rfl ?_
  refine a_aload_n C dX12_buys_122 0 rfl ?_
  refine a_getR C (k := 175) iX12 x_k175 rfl (j := 0) rfl (by decide) (by decide +kernel) dX12_buys_123 ?_
  refine a_bipush C dX12_buys_126 (v := 38) (by decide) ?_
  refine a_iload_n C dX12_buys_128 1 rfl ?_
  refine a_iadd C dX12_buys_129 ?_
  refine a_ialdN C (k := 176) x_k176 (i := 38 + i) (x_add2 (a := 38) (b := i) rfl rfl) (by omega) (by first | decide | omega) dX12_buys_130 ?_
  refine a_top (y := (((d 176 (38 + i)) + u))) (by first | rw [x_p_row (by omega), x_p_row (by omega), x_p_at] | rfl) ?_
  refine a_callV C (k := 175) (As := [.int (((d 176 (38 + i)) + u))]) (rest := []) (c_M_done l G (x_p (x_p (x_p (x_p d 176 3 ((d 176 3) - u)) 176 (38 + i) ((d 176 (38 + i)) + u)) 176 (54 + i) ((d 176 (54 + i)) - u)) 176 5 ((d 176 5) + u)) (((d 176 (38 + i)) + u))) (cwV 1 C.1.2.2.2.2 gX12_buys_X12_done rfl rfl rfl (by decide +kernel) ⟨Nat.le_of_ble_eq_true rfl, Nat.le_of_ble_eq_true rfl⟩) x_k175 (q := (RX12, TX12, 16)) rfl rfl rfl rfl (Nat.le_of_ble_eq_true rfl) dX12_buys_131 ⟨Nat.le_of_ble_eq_true rfl, Nat.le_of_ble_eq_true rfl⟩ ?_
  exact a_iret C hlocks hr dX12_buys_134 rfl (by simp only [g_buys, g_ok, x_p, x_r_r, x_r_same])

set_option maxHeartbeats 1000000 in
set_option maxRecDepth 100000 in
theorem c_M_donates_1 (l : Launch) (G : xG) (d : xd) (u : Int32) (hu : ¬ (1 ≤ u ∧ u ≤ 50)) : x_M G l yX12_donates wsX12_donates 3 0 0 [.ref (x_b G + 175), .int u] d (some (.int 0)) (g_th d 1) := by
  refine x_start (cc := cX12_donates) (maxL := 2) (ret := (some .int)) (own := RX12) (by decide) rfl rfl (Nat.le_of_ble_eq_true rfl) (lst := [(0, .ref (x_b G + 175)), (1, .int u)]) rfl ?_
  intro p e s m args below meth c C hr hlocks
  refine a_iload_n C dX12_donates_0 1 rfl ?_
  refine a_iconst C dX12_donates_1 (v := 1) (by decide) ?_
  refine a_bipush C dX12_donates_2 (v := 50) (by decide) ?_
  refine a_callS C (As := [.int u, .int 1, .int 50]) (rest := []) (c_M_in_f l G d u 1 50 hu) (va_cwS 3 C.1.2.2.2.2 gX12_donates_X12_in rfl rfl rfl (by decide +kernel) ⟨Nat.le_of_ble_eq_true rfl, Nat.le_of_ble_eq_true rfl⟩) rfl rfl (Nat.le_of_ble_eq_true rfl) dX12_donates_4 ⟨Nat.le_of_ble_eq_true rfl, Nat.le_of_ble_eq_true rfl⟩ ?_
  refine a_if_ne C dX12_donates_7 (tgt := 16) (by decide) (fun h => absurd h (by decide)) (fun _ => ?_)
  refine a_aload_n C dX12_donates_10 0 rfl ?_
  refine a_iconst C dX12_donates_11 (v := 1) (by decide) ?_
  refine a_callV C (k := 175) (As := [.int 1]) (rest := []) (c_M_fails l G d 1) (cwV 1 C.1.2.2.2.2 gX12_donates_X12_fails rfl rfl rfl (by decide +kernel) ⟨Nat.le_of_ble_eq_true rfl, Nat.le_of_ble_eq_true rfl⟩) x_k175 (q := (RX12, TX12, 16)) rfl rfl rfl rfl (Nat.le_of_ble_eq_true rfl) dX12_donates_12 ⟨Nat.le_of_ble_eq_true rfl, Nat.le_of_ble_eq_true rfl⟩ ?_
  exact a_iret C hlocks hr dX12_donates_15 rfl rfl

set_option maxHeartbeats 1000000 in
set_option maxRecDepth 100000 in
theorem c_M_donates_2 (l : Launch) (G : xG) (d : xd) (u : Int32) (hu : 1 ≤ u ∧ u ≤ 50) (hp : ¬ d 176 4 + u ≤ 99) : x_M G l yX12_donates wsX12_donates 3 0 0 [.ref (x_b G + 175), .int u] d (some (.int 0)) (g_th d 2) := by
  have iX12 : ∀ w ∈ u_ws RX12 TX12 16, w ∈ wsX12_donates := by decide +kernel
  refine x_start (cc := cX12_donates) (maxL := 2) (ret := (some .int)) (own := RX12) (by decide) rfl rfl (Nat.le_of_ble_eq_true rfl) (lst := [(0, .ref (x_b G + 175)), (1, .int u)]) rfl ?_
  intro p e s m args below meth c C hr hlocks
  refine a_iload_n C dX12_donates_0 1 rfl ?_
  refine a_iconst C dX12_donates_1 (v := 1) (by decide) ?_
  refine a_bipush C dX12_donates_2 (v := 50) (by decide) ?_
  refine a_callS C (As := [.int u, .int 1, .int 50]) (rest := []) (c_M_in_t l G d u 1 50 hu) (va_cwS 3 C.1.2.2.2.2 gX12_donates_X12_in rfl rfl rfl (by decide +kernel) ⟨Nat.le_of_ble_eq_true rfl, Nat.le_of_ble_eq_true rfl⟩) rfl rfl (Nat.le_of_ble_eq_true rfl) dX12_donates_4 ⟨Nat.le_of_ble_eq_true rfl, Nat.le_of_ble_eq_true rfl⟩ ?_
  refine a_if_ne C dX12_donates_7 (tgt := 16) (by decide) (fun _ => ?_) (fun h => absurd h (by decide))
  refine a_aload_n C dX12_donates_16 0 rfl ?_
  refine a_getR C (k := 175) iX12 x_k175 rfl (j := 0) rfl (by decide) (by decide +kernel) dX12_donates_17 ?_
  refine a_iconst C dX12_donates_20 (v := 4) (by decide) ?_
  refine a_ialdN C (k := 176) x_k176 (i := 4) rfl (by decide) (by first | decide | omega) dX12_donates_21 ?_
  refine a_iload_n C dX12_donates_22 1 rfl ?_
  refine a_iadd C dX12_donates_23 ?_
  refine a_bipush C dX12_donates_24 (v := 99) (by decide) ?_
  refine a_icmp_le C dX12_donates_26 (tgt := 35) (by decide) (fun h => absurd h (hp)) (fun h26 => ?_)
  refine a_aload_n C dX12_donates_29 0 rfl ?_
  refine a_iconst C dX12_donates_30 (v := 2) (by decide) ?_
  refine a_callV C (k := 175) (As := [.int 2]) (rest := []) (c_M_fails l G d 2) (cwV 1 C.1.2.2.2.2 gX12_donates_X12_fails rfl rfl rfl (by decide +kernel) ⟨Nat.le_of_ble_eq_true rfl, Nat.le_of_ble_eq_true rfl⟩) x_k175 (q := (RX12, TX12, 16)) rfl rfl rfl rfl (Nat.le_of_ble_eq_true rfl) dX12_donates_31 ⟨Nat.le_of_ble_eq_true rfl, Nat.le_of_ble_eq_true rfl⟩ ?_
  exact a_iret C hlocks hr dX12_donates_34 rfl rfl

set_option maxHeartbeats 1000000 in
set_option maxRecDepth 100000 in
theorem c_M_donates (l : Launch) (G : xG) (d : xd) (u : Int32) (hu : 1 ≤ u ∧ u ≤ 50) (hp : d 176 4 + u ≤ 99) : x_M G l yX12_donates wsX12_donates 3 0 0 [.ref (x_b G + 175), .int u] d (some (.int (d 176 4 + u))) (g_ok d (upd (d 176) 4 (d 176 4 + u))) := by
  have iX12 : ∀ w ∈ u_ws RX12 TX12 16, w ∈ wsX12_donates := by decide +kernel
  refine x_start (cc := cX12_donates) (maxL := 2) (ret := (some .int)) (own := RX12) (by decide) rfl rfl (Nat.le_of_ble_eq_true rfl) (lst := [(0, .ref (x_b G + 175)), (1, .int u)]) rfl ?_
  intro p e s m args below meth c C hr hlocks
  refine a_iload_n C dX12_donates_0 1 rfl ?_
  refine a_iconst C dX12_donates_1 (v := 1) (by decide) ?_
  refine a_bipush C dX12_donates_2 (v := 50) (by decide) ?_
  refine a_callS C (As := [.int u, .int 1, .int 50]) (rest := []) (c_M_in_t l G d u 1 50 hu) (va_cwS 3 C.1.2.2.2.2 gX12_donates_X12_in rfl rfl rfl (by decide +kernel) ⟨Nat.le_of_ble_eq_true rfl, Nat.le_of_ble_eq_true rfl⟩) rfl rfl (Nat.le_of_ble_eq_true rfl) dX12_donates_4 ⟨Nat.le_of_ble_eq_true rfl, Nat.le_of_ble_eq_true rfl⟩ ?_
  refine a_if_ne C dX12_donates_7 (tgt := 16) (by decide) (fun _ => ?_) (fun h => absurd h (by decide))
  refine a_aload_n C dX12_donates_16 0 rfl ?_
  refine a_getR C (k := 175) iX12 x_k175 rfl (j := 0) rfl (by decide) (by decide +kernel) dX12_donates_17 ?_
  refine a_iconst C dX12_donates_20 (v := 4) (by decide) ?_
  refine a_ialdN C (k := 176) x_k176 (i := 4) rfl (by decide) (by first | decide | omega) dX12_donates_21 ?_
  refine a_iload_n C dX12_donates_22 1 rfl ?_
  refine a_iadd C dX12_donates_23 ?_
  refine a_bipush C dX12_donates_24 (v := 99) (by decide) ?_
  refine a_icmp_le C dX12_donates_26 (tgt := 35) (by decide) (fun h26 => ?_) (fun h => False.elim (h hp))
  refine a_aload_n C dX12_donates_35 0 rfl ?_
  refine a_getR C (k := 175) iX12 x_k175 rfl (j := 0) rfl (by decide) (by decide +kernel) dX12_donates_36 ?_
  refine a_iconst C dX12_donates_39 (v := 4) (by decide) ?_
  refine a_dup2 C dX12_donates_40 rfl rfl ?_
  refine a_ialdN C (k := 176) x_k176 (i := 4) rfl (by decide) (by first | decide | omega) dX12_donates_41 ?_
  refine a_iload_n C dX12_donates_42 1 rfl ?_
  refine a_iadd C dX12_donates_43 ?_
  refine a_iastN C (k := 176) x_k176 (i := 4) rfl (by decide) (by first | decide | omega) dX12_donates_44 ?_
  refine a_aload_n C dX12_donates_45 0 rfl ?_
  refine a_aload_n C dX12_donates_46 0 rfl ?_
  refine a_getR C (k := 175) iX12 x_k175 rfl (j := 0) rfl (by decide) (by decide +kernel) dX12_donates_47 ?_
  refine a_iconst C dX12_donates_50 (v := 4) (by decide) ?_
  refine a_ialdN C (k := 176) x_k176 (i := 4) rfl (by decide) (by first | decide | omega) dX12_donates_51 ?_
  refine a_top (y := (((d 176 4) + u))) (by first | rw [x_p_at] | rfl) ?_
  refine a_callV C (k := 175) (As := [.int (((d 176 4) + u))]) (rest := []) (c_M_done l G (x_p d 176 4 ((d 176 4) + u)) (((d 176 4) + u))) (cwV 1 C.1.2.2.2.2 gX12_donates_X12_done rfl rfl rfl (by decide +kernel) ⟨Nat.le_of_ble_eq_true rfl, Nat.le_of_ble_eq_true rfl⟩) x_k175 (q := (RX12, TX12, 16)) rfl rfl rfl rfl (Nat.le_of_ble_eq_true rfl) dX12_donates_52 ⟨Nat.le_of_ble_eq_true rfl, Nat.le_of_ble_eq_true rfl⟩ ?_
  exact a_iret C hlocks hr dX12_donates_55 rfl rfl

set_option maxHeartbeats 1000000 in
set_option maxRecDepth 100000 in
theorem c_M_movesWick_1 (l : Launch) (G : xG) (d : xd) (u w : Int32) (x : Int32) (n : Nat) (hn : d 176 0 = nI n) (h8 : n ≤ 8) (hx : ¬ (0 ≤ x ∧ x < nI n)) : x_M G l yX12_movesWick wsX12_movesWick 3 0 0 [.ref (x_b G + 175), .int x, .int u, .int w] d (some (.int 0)) (g_th d 1) := by
  refine x_start (cc := cX12_movesWick) (maxL := 6) (ret := (some .int)) (own := RX12) (by decide) rfl rfl (Nat.le_of_ble_eq_true rfl) (lst := [(0, .ref (x_b G + 175)), (1, .int x), (2, .int u), (3, .int w)]) rfl ?_
  intro p e s m args below meth c C hr hlocks
  refine a_aload_n C dX12_movesWick_0 0 rfl ?_
  refine a_iload_n C dX12_movesWick_1 1 rfl ?_
  refine a_callV C (k := 175) (As := [.int x]) (rest := []) (c_M_isLamp_f l G d x n hn h8 hx) (cwV 1 C.1.2.2.2.2 gX12_movesWick_X12_isLamp rfl rfl rfl (by decide +kernel) ⟨Nat.le_of_ble_eq_true rfl, Nat.le_of_ble_eq_true rfl⟩) x_k175 (q := (RX12, TX12, 16)) rfl rfl rfl rfl (Nat.le_of_ble_eq_true rfl) dX12_movesWick_2 ⟨Nat.le_of_ble_eq_true rfl, Nat.le_of_ble_eq_true rfl⟩ ?_
  refine a_if_ne C dX12_movesWick_5 (tgt := 14) (by decide) (fun h => absurd h (by decide)) (fun _ => ?_)
  refine a_aload_n C dX12_movesWick_8 0 rfl ?_
  refine a_iconst C dX12_movesWick_9 (v := 1) (by decide) ?_
  refine a_callV C (k := 175) (As := [.int 1]) (rest := []) (c_M_fails l G d 1) (cwV 1 C.1.2.2.2.2 gX12_movesWick_X12_fails rfl rfl rfl (by decide +kernel) ⟨Nat.le_of_ble_eq_true rfl, Nat.le_of_ble_eq_true rfl⟩) x_k175 (q := (RX12, TX12, 16)) rfl rfl rfl rfl (Nat.le_of_ble_eq_true rfl) dX12_movesWick_10 ⟨Nat.le_of_ble_eq_true rfl, Nat.le_of_ble_eq_true rfl⟩ ?_
  exact a_iret C hlocks hr dX12_movesWick_13 rfl rfl

set_option maxHeartbeats 1000000 in
set_option maxRecDepth 100000 in
theorem c_M_movesWick_2 (l : Launch) (G : xG) (d : xd) (u w : Int32) (i n : Nat) (hn : d 176 0 = nI n) (h8 : n ≤ 8) (hi : i < n) (hu : ¬ (1 ≤ u ∧ u ≤ 9)) : x_M G l yX12_movesWick wsX12_movesWick 3 0 0 [.ref (x_b G + 175), .int (nI i), .int u, .int w] d (some (.int 0)) (g_th d 2) := by
  refine x_start (cc := cX12_movesWick) (maxL := 6) (ret := (some .int)) (own := RX12) (by decide) rfl rfl (Nat.le_of_ble_eq_true rfl) (lst := [(0, .ref (x_b G + 175)), (1, .int (nI i)), (2, .int u), (3, .int w)]) rfl ?_
  intro p e s m args below meth c C hr hlocks
  refine a_aload_n C dX12_movesWick_0 0 rfl ?_
  refine a_iload_n C dX12_movesWick_1 1 rfl ?_
  refine a_callV C (k := 175) (As := [.int (nI i)]) (rest := []) (c_M_isLamp_t l G d i n hn h8 hi) (cwV 1 C.1.2.2.2.2 gX12_movesWick_X12_isLamp rfl rfl rfl (by decide +kernel) ⟨Nat.le_of_ble_eq_true rfl, Nat.le_of_ble_eq_true rfl⟩) x_k175 (q := (RX12, TX12, 16)) rfl rfl rfl rfl (Nat.le_of_ble_eq_true rfl) dX12_movesWick_2 ⟨Nat.le_of_ble_eq_true rfl, Nat.le_of_ble_eq_true rfl⟩ ?_
  refine a_if_ne C dX12_movesWick_5 (tgt := 14) (by decide) (fun _ => ?_) (fun h => absurd h (by decide))
  refine a_iload_n C dX12_movesWick_14 2 rfl ?_
  refine a_iconst C dX12_movesWick_15 (v := 1) (by decide) ?_
  refine a_bipush C dX12_movesWick_16 (v := 9) (by decide) ?_
  refine a_callS C (As := [.int u, .int 1, .int 9]) (rest := []) (c_M_in_f l G d u 1 9 hu) (va_cwS 3 C.1.2.2.2.2 gX12_movesWick_X12_in rfl rfl rfl (by decide +kernel) ⟨Nat.le_of_ble_eq_true rfl, Nat.le_of_ble_eq_true rfl⟩) rfl rfl (Nat.le_of_ble_eq_true rfl) dX12_movesWick_18 ⟨Nat.le_of_ble_eq_true rfl, Nat.le_of_ble_eq_true rfl⟩ ?_
  refine a_if_ne C dX12_movesWick_21 (tgt := 30) (by decide) (fun h => absurd h (by decide)) (fun _ => ?_)
  refine a_aload_n C dX12_movesWick_24 0 rfl ?_
  refine a_iconst C dX12_movesWick_25 (v := 2) (by decide) ?_
  refine a_callV C (k := 175) (As := [.int 2]) (rest := []) (c_M_fails l G d 2) (cwV 1 C.1.2.2.2.2 gX12_movesWick_X12_fails rfl rfl rfl (by decide +kernel) ⟨Nat.le_of_ble_eq_true rfl, Nat.le_of_ble_eq_true rfl⟩) x_k175 (q := (RX12, TX12, 16)) rfl rfl rfl rfl (Nat.le_of_ble_eq_true rfl) dX12_movesWick_26 ⟨Nat.le_of_ble_eq_true rfl, Nat.le_of_ble_eq_true rfl⟩ ?_
  exact a_iret C hlocks hr dX12_movesWick_29 rfl rfl

set_option maxHeartbeats 1000000 in
set_option maxRecDepth 100000 in
theorem c_M_movesWick_3 (l : Launch) (G : xG) (d : xd) (u w : Int32) (i n : Nat) (hn : d 176 0 = nI n) (h8 : n ≤ 8) (hi : i < n) (hu : 1 ≤ u ∧ u ≤ 9) (hc : ¬ ((0 ≤ d 176 (46 + i) + w * u ∧ d 176 (46 + i) + w * u ≤ 9) ∧ (0 ≤ d 176 4 - w * u ∧ d 176 4 - w * u ≤ 99))) : x_M G l yX12_movesWick wsX12_movesWick 3 0 0 [.ref (x_b G + 175), .int (nI i), .int u, .int w] d (some (.int 0)) (g_th d 3) := by
  have iX12 : ∀ w ∈ u_ws RX12 TX12 16, w ∈ wsX12_movesWick := by decide +kernel
  refine x_start (cc := cX12_movesWick) (maxL := 6) (ret := (some .int)) (own := RX12) (by decide) rfl rfl (Nat.le_of_ble_eq_true rfl) (lst := [(0, .ref (x_b G + 175)), (1, .int (nI i)), (2, .int u), (3, .int w)]) rfl ?_
  intro p e s m args below meth c C hr hlocks
  refine a_aload_n C dX12_movesWick_0 0 rfl ?_
  refine a_iload_n C dX12_movesWick_1 1 rfl ?_
  refine a_callV C (k := 175) (As := [.int (nI i)]) (rest := []) (c_M_isLamp_t l G d i n hn h8 hi) (cwV 1 C.1.2.2.2.2 gX12_movesWick_X12_isLamp rfl rfl rfl (by decide +kernel) ⟨Nat.le_of_ble_eq_true rfl, Nat.le_of_ble_eq_true rfl⟩) x_k175 (q := (RX12, TX12, 16)) rfl rfl rfl rfl (Nat.le_of_ble_eq_true rfl) dX12_movesWick_2 ⟨Nat.le_of_ble_eq_true rfl, Nat.le_of_ble_eq_true rfl⟩ ?_
  refine a_if_ne C dX12_movesWick_5 (tgt := 14) (by decide) (fun _ => ?_) (fun h => absurd h (by decide))
  refine a_iload_n C dX12_movesWick_14 2 rfl ?_
  refine a_iconst C dX12_movesWick_15 (v := 1) (by decide) ?_
  refine a_bipush C dX12_movesWick_16 (v := 9) (by decide) ?_
  refine a_callS C (As := [.int u, .int 1, .int 9]) (rest := []) (c_M_in_t l G d u 1 9 hu) (va_cwS 3 C.1.2.2.2.2 gX12_movesWick_X12_in rfl rfl rfl (by decide +kernel) ⟨Nat.le_of_ble_eq_true rfl, Nat.le_of_ble_eq_true rfl⟩) rfl rfl (Nat.le_of_ble_eq_true rfl) dX12_movesWick_18 ⟨Nat.le_of_ble_eq_true rfl, Nat.le_of_ble_eq_true rfl⟩ ?_
  refine a_if_ne C dX12_movesWick_21 (tgt := 30) (by decide) (fun _ => ?_) (fun h => absurd h (by decide))
  refine a_aload_n C dX12_movesWick_30 0 rfl ?_
  refine a_getR C (k := 175) iX12 x_k175 rfl (j := 0) rfl (by decide) (by decide +kernel) dX12_movesWick_31 ?_
  refine a_bipush C dX12_movesWick_34 (v := 46) (by decide) ?_
  refine a_iload_n C dX12_movesWick_36 1 rfl ?_
  refine a_iadd C dX12_movesWick_37 ?_
  refine a_ialdN C (k := 176) x_k176 (i := 46 + i) (x_add2 (a := 46) (b := i) rfl rfl) (by omega) (by first | decide | omega) dX12_movesWick_38 ?_
  refine a_iload_n C dX12_movesWick_39 3 rfl ?_
  refine a_iload_n C dX12_movesWick_40 2 rfl ?_
  refine a_imul C dX12_movesWick_41 ?_
  refine a_iadd C dX12_movesWick_42 ?_
  refine a_istore C dX12_movesWick_43 (by decide) (lst2 := [(4, .int ((d 176 (46 + i)) + (w * u))), (0, .ref (x_b G + 175)), (1, .int (nI i)), (2, .int u), (3, .int w)]) rfl ?_
  refine a_aload_n C dX12_movesWick_45 1 rfl ?_
  refine a_getR C (k := 175) iX12 x_k175 rfl (j := 0) rfl (by decide) (by decide +kernel) dX12_movesWick_46 ?_
  refine a_iconst C dX12_movesWick_49 (v := 4) (by decide) ?_
  refine a_ialdN C (k := 176) x_k176 (i := 4) rfl (by decide) (by first | decide | omega) dX12_movesWick_50 ?_
  refine a_iload_n C dX12_movesWick_51 4 rfl ?_
  refine a_iload_n C dX12_movesWick_52 3 rfl ?_
  refine a_imul C dX12_movesWick_53 ?_
  refine a_isub C dX12_movesWick_54 ?_
  refine a_istore C dX12_movesWick_55 (by decide) (lst2 := [(5, .int ((d 176 4) - (w * u))), (4, .int ((d 176 (46 + i)) + (w * u))), (0, .ref (x_b G + 175)), (1, .int (nI i)), (2, .int u), (3, .int w)]) rfl ?_
  refine a_iload C dX12_movesWick_57 1 rfl ?_
  refine a_iconst C dX12_movesWick_59 (v := 0) (by decide) ?_
  refine a_bipush C dX12_movesWick_60 (v := 9) (by decide) ?_
  refine a_callS C (As := [.int ((d 176 (46 + i)) + (w * u)), .int 0, .int 9]) (rest := []) (c_M_in l G d (d 176 (46 + i) + w * u) 0 9) (va_cwS 3 C.1.2.2.2.2 gX12_movesWick_X12_in rfl rfl rfl (by decide +kernel) ⟨Nat.le_of_ble_eq_true rfl, Nat.le_of_ble_eq_true rfl⟩) rfl rfl (Nat.le_of_ble_eq_true rfl) dX12_movesWick_62 ⟨Nat.le_of_ble_eq_true rfl, Nat.le_of_ble_eq_true rfl⟩ ?_
  refine a_if_eq C dX12_movesWick_65 (tgt := 79) (by decide) (fun h65 => ?_) (fun h65 => ?_)
  · skip
    refine a_aload_n C dX12_movesWick_79 2 rfl ?_
    refine a_iconst C dX12_movesWick_80 (v := 3) (by decide) ?_
    refine a_callV C (k := 175) (As := [.int 3]) (rest := []) (c_M_fails l G d 3) (cwV 1 C.1.2.2.2.2 gX12_movesWick_X12_fails rfl rfl rfl (by decide +kernel) ⟨Nat.le_of_ble_eq_true rfl, Nat.le_of_ble_eq_true rfl⟩) x_k175 (q := (RX12, TX12, 16)) rfl rfl rfl rfl (Nat.le_of_ble_eq_true rfl) dX12_movesWick_81 ⟨Nat.le_of_ble_eq_true rfl, Nat.le_of_ble_eq_true rfl⟩ ?_
    exact a_iret C hlocks hr dX12_movesWick_84 rfl rfl
  · skip
    refine a_iload C dX12_movesWick_68 0 rfl ?_
    refine a_iconst C dX12_movesWick_70 (v := 0) (by decide) ?_
    refine a_bipush C dX12_movesWick_71 (v := 99) (by decide) ?_
    refine a_callS C (As := [.int ((d 176 4) - (w * u)), .int 0, .int 99]) (rest := []) (c_M_in l G d (d 176 4 - w * u) 0 99) (va_cwS 3 C.1.2.2.2.2 gX12_movesWick_X12_in rfl rfl rfl (by decide +kernel) ⟨Nat.le_of_ble_eq_true rfl, Nat.le_of_ble_eq_true rfl⟩) rfl rfl (Nat.le_of_ble_eq_true rfl) dX12_movesWick_73 ⟨Nat.le_of_ble_eq_true rfl, Nat.le_of_ble_eq_true rfl⟩ ?_
    refine a_if_ne C dX12_movesWick_76 (tgt := 85) (by decide) (fun h76 => ?_) (fun h76 => ?_)
    · skip
      exact (hc ⟨x_bi_nz h65, x_bi_nz h76⟩).elim
    · skip
      refine a_aload_n C dX12_movesWick_79 2 rfl ?_
      refine a_iconst C dX12_movesWick_80 (v := 3) (by decide) ?_
      refine a_callV C (k := 175) (As := [.int 3]) (rest := []) (c_M_fails l G d 3) (cwV 1 C.1.2.2.2.2 gX12_movesWick_X12_fails rfl rfl rfl (by decide +kernel) ⟨Nat.le_of_ble_eq_true rfl, Nat.le_of_ble_eq_true rfl⟩) x_k175 (q := (RX12, TX12, 16)) rfl rfl rfl rfl (Nat.le_of_ble_eq_true rfl) dX12_movesWick_81 ⟨Nat.le_of_ble_eq_true rfl, Nat.le_of_ble_eq_true rfl⟩ ?_
      exact a_iret C hlocks hr dX12_movesWick_84 rfl rfl

set_option maxHeartbeats 1000000 in
set_option maxRecDepth 100000 in
theorem c_M_movesWick (l : Launch) (G : xG) (d : xd) (u w : Int32) (i n : Nat) (hn : d 176 0 = nI n) (h8 : n ≤ 8) (hi : i < n) (hu : 1 ≤ u ∧ u ≤ 9) (hc1 : 0 ≤ d 176 (46 + i) + w * u ∧ d 176 (46 + i) + w * u ≤ 9) (hc2 : 0 ≤ d 176 4 - w * u ∧ d 176 4 - w * u ≤ 99) : x_M G l yX12_movesWick wsX12_movesWick 3 0 0 [.ref (x_b G + 175), .int (nI i), .int u, .int w] d (some (.int (d 176 (46 + i) + w * u))) (g_ok d (upd (upd (d 176) (46 + i) (d 176 (46 + i) + w * u)) 4 (d 176 4 - w * u))) := by
  have iX12 : ∀ w ∈ u_ws RX12 TX12 16, w ∈ wsX12_movesWick := by decide +kernel
  refine x_start (cc := cX12_movesWick) (maxL := 6) (ret := (some .int)) (own := RX12) (by decide) rfl rfl (Nat.le_of_ble_eq_true rfl) (lst := [(0, .ref (x_b G + 175)), (1, .int (nI i)), (2, .int u), (3, .int w)]) rfl ?_
  intro p e s m args below meth c C hr hlocks
  refine a_aload_n C dX12_movesWick_0 0 rfl ?_
  refine a_iload_n C dX12_movesWick_1 1 rfl ?_
  refine a_callV C (k := 175) (As := [.int (nI i)]) (rest := []) (c_M_isLamp_t l G d i n hn h8 hi) (cwV 1 C.1.2.2.2.2 gX12_movesWick_X12_isLamp rfl rfl rfl (by decide +kernel) ⟨Nat.le_of_ble_eq_true rfl, Nat.le_of_ble_eq_true rfl⟩) x_k175 (q := (RX12, TX12, 16)) rfl rfl rfl rfl (Nat.le_of_ble_eq_true rfl) dX12_movesWick_2 ⟨Nat.le_of_ble_eq_true rfl, Nat.le_of_ble_eq_true rfl⟩ ?_
  refine a_if_ne C dX12_movesWick_5 (tgt := 14) (by decide) (fun _ => ?_) (fun h => absurd h (by decide))
  refine a_iload_n C dX12_movesWick_14 2 rfl ?_
  refine a_iconst C dX12_movesWick_15 (v := 1) (by decide) ?_
  refine a_bipush C dX12_movesWick_16 (v := 9) (by decide) ?_
  refine a_callS C (As := [.int u, .int 1, .int 9]) (rest := []) (c_M_in_t l G d u 1 9 hu) (va_cwS 3 C.1.2.2.2.2 gX12_movesWick_X12_in rfl rfl rfl (by decide +kernel) ⟨Nat.le_of_ble_eq_true rfl, Nat.le_of_ble_eq_true rfl⟩) rfl rfl (Nat.le_of_ble_eq_true rfl) dX12_movesWick_18 ⟨Nat.le_of_ble_eq_true rfl, Nat.le_of_ble_eq_true rfl⟩ ?_
  refine a_if_ne C dX12_movesWick_21 (tgt := 30) (by decide) (fun _ => ?_) (fun h => absurd h (by decide))
  refine a_aload_n C dX12_movesWick_30 0 rfl ?_
  refine a_getR C (k := 175) iX12 x_k175 rfl (j := 0) rfl (by decide) (by decide +kernel) dX12_movesWick_31 ?_
  refine a_bipush C dX12_movesWick_34 (v := 46) (by decide) ?_
  refine a_iload_n C dX12_movesWick_36 1 rfl ?_
  refine a_iadd C dX12_movesWick_37 ?_
  refine a_ialdN C (k := 176) x_k176 (i := 46 + i) (x_add2 (a := 46) (b := i) rfl rfl) (by omega) (by first | decide | omega) dX12_movesWick_38 ?_
  refine a_iload_n C dX12_movesWick_39 3 rfl ?_
  refine a_iload_n C dX12_movesWick_40 2 rfl ?_
  refine a_imul C dX12_movesWick_41 ?_
  refine a_iadd C dX12_movesWick_42 ?_
  refine a_istore C dX12_movesWick_43 (by decide) (lst2 := [(4, .int ((d 176 (46 + i)) + (w * u))), (0, .ref (x_b G + 175)), (1, .int (nI i)), (2, .int u), (3, .int w)]) rfl ?_
  refine a_aload_n C dX12_movesWick_45 1 rfl ?_
  refine a_getR C (k := 175) iX12 x_k175 rfl (j := 0) rfl (by decide) (by decide +kernel) dX12_movesWick_46 ?_
  refine a_iconst C dX12_movesWick_49 (v := 4) (by decide) ?_
  refine a_ialdN C (k := 176) x_k176 (i := 4) rfl (by decide) (by first | decide | omega) dX12_movesWick_50 ?_
  refine a_iload_n C dX12_movesWick_51 4 rfl ?_
  refine a_iload_n C dX12_movesWick_52 3 rfl ?_
  refine a_imul C dX12_movesWick_53 ?_
  refine a_isub C dX12_movesWick_54 ?_
  refine a_istore C dX12_movesWick_55 (by decide) (lst2 := [(5, .int ((d 176 4) - (w * u))), (4, .int ((d 176 (46 + i)) + (w * u))), (0, .ref (x_b G + 175)), (1, .int (nI i)), (2, .int u), (3, .int w)]) rfl ?_
  refine a_iload C dX12_movesWick_57 1 rfl ?_
  refine a_iconst C dX12_movesWick_59 (v := 0) (by decide) ?_
  refine a_bipush C dX12_movesWick_60 (v := 9) (by decide) ?_
  refine a_callS C (As := [.int ((d 176 (46 + i)) + (w * u)), .int 0, .int 9]) (rest := []) (c_M_in_t l G d ((d 176 (46 + i)) + (w * u)) 0 9 hc1) (va_cwS 3 C.1.2.2.2.2 gX12_movesWick_X12_in rfl rfl rfl (by decide +kernel) ⟨Nat.le_of_ble_eq_true rfl, Nat.le_of_ble_eq_true rfl⟩) rfl rfl (Nat.le_of_ble_eq_true rfl) dX12_movesWick_62 ⟨Nat.le_of_ble_eq_true rfl, Nat.le_of_ble_eq_true rfl⟩ ?_
  refine a_if_eq C dX12_movesWick_65 (tgt := 79) (by decide) (fun h => absurd h (by decide)) (fun _ => ?_)
  refine a_iload C dX12_movesWick_68 0 rfl ?_
  refine a_iconst C dX12_movesWick_70 (v := 0) (by decide) ?_
  refine a_bipush C dX12_movesWick_71 (v := 99) (by decide) ?_
  refine a_callS C (As := [.int ((d 176 4) - (w * u)), .int 0, .int 99]) (rest := []) (c_M_in_t l G d ((d 176 4) - (w * u)) 0 99 hc2) (va_cwS 3 C.1.2.2.2.2 gX12_movesWick_X12_in rfl rfl rfl (by decide +kernel) ⟨Nat.le_of_ble_eq_true rfl, Nat.le_of_ble_eq_true rfl⟩) rfl rfl (Nat.le_of_ble_eq_true rfl) dX12_movesWick_73 ⟨Nat.le_of_ble_eq_true rfl, Nat.le_of_ble_eq_true rfl⟩ ?_
  refine a_if_ne C dX12_movesWick_76 (tgt := 85) (by decide) (fun _ => ?_) (fun h => absurd h (by decide))
  refine a_aload_n C dX12_movesWick_85 2 rfl ?_
  refine a_getR C (k := 175) iX12 x_k175 rfl (j := 0) rfl (by decide) (by decide +kernel) dX12_movesWick_86 ?_
  refine a_bipush C dX12_movesWick_89 (v := 46) (by decide) ?_
  refine a_iload_n C dX12_movesWick_91 3 rfl ?_
  refine a_iadd C dX12_movesWick_92 ?_
  refine a_iload C dX12_movesWick_93 1 rfl ?_
  refine a_iastN C (k := 176) x_k176 (i := 46 + i) (x_add2 (a := 46) (b := i) rfl rfl) (by omega) (by first | decide | omega) dX12_movesWick_95 ?_
  refine a_aload_n C dX12_movesWick_96 2 rfl ?_
  refine a_getR C (k := 175) iX12 x_k175 rfl (j := 0) rfl (by decide) (by decide +kernel) dX12_movesWick_97 ?_
  refine a_iconst C dX12_movesWick_100 (v := 4) (by decide) ?_
  refine a_iload C dX12_movesWick_101 0 rfl ?_
  refine a_iastN C (k := 176) x_k176 (i := 4) rfl (by decide) (by first | decide | omega) dX12_movesWick_103 ?_
  refine a_aload_n C dX12_movesWick_104 2 rfl ?_
  refine a_iload C dX12_movesWick_105 1 rfl ?_
  refine a_callV C (k := 175) (As := [.int ((d 176 (46 + i)) + (w * u))]) (rest := []) (c_M_done l G (x_p (x_p d 176 (46 + i) ((d 176 (46 + i)) + (w * u))) 176 4 ((d 176 4) - (w * u))) ((d 176 (46 + i)) + (w * u))) (cwV 1 C.1.2.2.2.2 gX12_movesWick_X12_done rfl rfl rfl (by decide +kernel) ⟨Nat.le_of_ble_eq_true rfl, Nat.le_of_ble_eq_true rfl⟩) x_k175 (q := (RX12, TX12, 16)) rfl rfl rfl rfl (Nat.le_of_ble_eq_true rfl) dX12_movesWick_107 ⟨Nat.le_of_ble_eq_true rfl, Nat.le_of_ble_eq_true rfl⟩ ?_
  exact a_iret C hlocks hr dX12_movesWick_110 rfl (by simp only [g_ok, x_p, x_r_r, x_r_same])

set_option maxHeartbeats 1000000 in
set_option maxRecDepth 100000 in
theorem c_M_addsMoth_1 (l : Launch) (G : xG) (d : xd) (x : Int32) (n : Nat) (hn : d 176 0 = nI n) (h8 : n ≤ 8) (hx : ¬ (0 ≤ x ∧ x < nI n)) : x_M G l yX12_addsMoth wsX12_addsMoth 3 0 0 [.ref (x_b G + 175), .int x] d (some (.int 0)) (g_th d 1) := by
  refine x_start (cc := cX12_addsMoth) (maxL := 3) (ret := (some .int)) (own := RX12) (by decide) rfl rfl (Nat.le_of_ble_eq_true rfl) (lst := [(0, .ref (x_b G + 175)), (1, .int x)]) rfl ?_
  intro p e s m args below meth c C hr hlocks
  refine a_aload_n C dX12_addsMoth_0 0 rfl ?_
  refine a_iload_n C dX12_addsMoth_1 1 rfl ?_
  refine a_callV C (k := 175) (As := [.int x]) (rest := []) (c_M_isLamp_f l G d x n hn h8 hx) (cwV 1 C.1.2.2.2.2 gX12_addsMoth_X12_isLamp rfl rfl rfl (by decide +kernel) ⟨Nat.le_of_ble_eq_true rfl, Nat.le_of_ble_eq_true rfl⟩) x_k175 (q := (RX12, TX12, 16)) rfl rfl rfl rfl (Nat.le_of_ble_eq_true rfl) dX12_addsMoth_2 ⟨Nat.le_of_ble_eq_true rfl, Nat.le_of_ble_eq_true rfl⟩ ?_
  refine a_if_ne C dX12_addsMoth_5 (tgt := 14) (by decide) (fun h => absurd h (by decide)) (fun _ => ?_)
  refine a_aload_n C dX12_addsMoth_8 0 rfl ?_
  refine a_iconst C dX12_addsMoth_9 (v := 1) (by decide) ?_
  refine a_callV C (k := 175) (As := [.int 1]) (rest := []) (c_M_fails l G d 1) (cwV 1 C.1.2.2.2.2 gX12_addsMoth_X12_fails rfl rfl rfl (by decide +kernel) ⟨Nat.le_of_ble_eq_true rfl, Nat.le_of_ble_eq_true rfl⟩) x_k175 (q := (RX12, TX12, 16)) rfl rfl rfl rfl (Nat.le_of_ble_eq_true rfl) dX12_addsMoth_10 ⟨Nat.le_of_ble_eq_true rfl, Nat.le_of_ble_eq_true rfl⟩ ?_
  exact a_iret C hlocks hr dX12_addsMoth_13 rfl rfl

set_option maxHeartbeats 1000000 in
set_option maxRecDepth 100000 in
theorem c_M_addsMoth_2 (l : Launch) (G : xG) (d : xd) (i n : Nat) (hn : d 176 0 = nI n) (h8 : n ≤ 8) (hi : i < n) (hq : d 176 1 = 6) : x_M G l yX12_addsMoth wsX12_addsMoth 3 0 0 [.ref (x_b G + 175), .int (nI i)] d (some (.int 0)) (g_th d 2) := by
  have iX12 : ∀ w ∈ u_ws RX12 TX12 16, w ∈ wsX12_addsMoth := by decide +kernel
  refine x_start (cc := cX12_addsMoth) (maxL := 3) (ret := (some .int)) (own := RX12) (by decide) rfl rfl (Nat.le_of_ble_eq_true rfl) (lst := [(0, .ref (x_b G + 175)), (1, .int (nI i))]) rfl ?_
  intro p e s m args below meth c C hr hlocks
  refine a_aload_n C dX12_addsMoth_0 0 rfl ?_
  refine a_iload_n C dX12_addsMoth_1 1 rfl ?_
  refine a_callV C (k := 175) (As := [.int (nI i)]) (rest := []) (c_M_isLamp_t l G d i n hn h8 hi) (cwV 1 C.1.2.2.2.2 gX12_addsMoth_X12_isLamp rfl rfl rfl (by decide +kernel) ⟨Nat.le_of_ble_eq_true rfl, Nat.le_of_ble_eq_true rfl⟩) x_k175 (q := (RX12, TX12, 16)) rfl rfl rfl rfl (Nat.le_of_ble_eq_true rfl) dX12_addsMoth_2 ⟨Nat.le_of_ble_eq_true rfl, Nat.le_of_ble_eq_true rfl⟩ ?_
  refine a_if_ne C dX12_addsMoth_5 (tgt := 14) (by decide) (fun _ => ?_) (fun h => absurd h (by decide))
  refine a_aload_n C dX12_addsMoth_14 0 rfl ?_
  refine a_getR C (k := 175) iX12 x_k175 rfl (j := 0) rfl (by decide) (by decide +kernel) dX12_addsMoth_15 ?_
  refine a_iconst C dX12_addsMoth_18 (v := 1) (by decide) ?_
  refine a_ialdN C (k := 176) x_k176 (i := 1) rfl (by decide) (by first | decide | omega) dX12_addsMoth_19 ?_
  refine a_top (y := 6) hq ?_
  refine a_istore_n C dX12_addsMoth_20 (by decide) (lst2 := [(2, .int 6), (0, .ref (x_b G + 175)), (1, .int (nI i))]) rfl ?_
  refine a_iload_n C dX12_addsMoth_21 0 rfl ?_
  refine a_bipush C dX12_addsMoth_22 (v := 6) (by decide) ?_
  refine a_icmp_ne C dX12_addsMoth_24 (tgt := 33) (by decide) (fun h => absurd h (by decide)) (fun _ => ?_)
  refine a_aload_n C dX12_addsMoth_27 1 rfl ?_
  refine a_iconst C dX12_addsMoth_28 (v := 2) (by decide) ?_
  refine a_callV C (k := 175) (As := [.int 2]) (rest := []) (c_M_fails l G d 2) (cwV 1 C.1.2.2.2.2 gX12_addsMoth_X12_fails rfl rfl rfl (by decide +kernel) ⟨Nat.le_of_ble_eq_true rfl, Nat.le_of_ble_eq_true rfl⟩) x_k175 (q := (RX12, TX12, 16)) rfl rfl rfl rfl (Nat.le_of_ble_eq_true rfl) dX12_addsMoth_29 ⟨Nat.le_of_ble_eq_true rfl, Nat.le_of_ble_eq_true rfl⟩ ?_
  exact a_iret C hlocks hr dX12_addsMoth_32 rfl rfl

def g_addm (z : Nat → Int32) (i q : Nat) : Nat → Int32 := upd (upd (upd (upd (z) (62 + q) (((nI i) + 1))) (68 + q) (0)) (74 + q) (3)) (1) ((nI (q + 1)))
set_option maxHeartbeats 1000000 in
set_option maxRecDepth 100000 in
theorem c_M_addsMoth (l : Launch) (G : xG) (d : xd) (i n : Nat) (hn : d 176 0 = nI n) (h8 : n ≤ 8) (hi : i < n) (q : Nat) (hq : d 176 1 = nI q) (h6 : q < 6) : x_M G l yX12_addsMoth wsX12_addsMoth 3 0 0 [.ref (x_b G + 175), .int (nI i)] d (some (.int (nI q))) (g_ok d (g_addm (d 176) i q)) := by
  have iX12 : ∀ w ∈ u_ws RX12 TX12 16, w ∈ wsX12_addsMoth := by decide +kernel
  refine x_start (cc := cX12_addsMoth) (maxL := 3) (ret := (some .int)) (own := RX12) (by decide) rfl rfl (Nat.le_of_ble_eq_true rfl) (lst := [(0, .ref (x_b G + 175)), (1, .int (nI i))]) rfl ?_
  intro p e s m args below meth c C hr hlocks
  refine a_aload_n C dX12_addsMoth_0 0 rfl ?_
  refine a_iload_n C dX12_addsMoth_1 1 rfl ?_
  refine a_callV C (k := 175) (As := [.int (nI i)]) (rest := []) (c_M_isLamp_t l G d i n hn h8 hi) (cwV 1 C.1.2.2.2.2 gX12_addsMoth_X12_isLamp rfl rfl rfl (by decide +kernel) ⟨Nat.le_of_ble_eq_true rfl, Nat.le_of_ble_eq_true rfl⟩) x_k175 (q := (RX12, TX12, 16)) rfl rfl rfl rfl (Nat.le_of_ble_eq_true rfl) dX12_addsMoth_2 ⟨Nat.le_of_ble_eq_true rfl, Nat.le_of_ble_eq_true rfl⟩ ?_
  refine a_if_ne C dX12_addsMoth_5 (tgt := 14) (by decide) (fun _ => ?_) (fun h => absurd h (by decide))
  refine a_aload_n C dX12_addsMoth_14 0 rfl ?_
  refine a_getR C (k := 175) iX12 x_k175 rfl (j := 0) rfl (by decide) (by decide +kernel) dX12_addsMoth_15 ?_
  refine a_iconst C dX12_addsMoth_18 (v := 1) (by decide) ?_
  refine a_ialdN C (k := 176) x_k176 (i := 1) rfl (by decide) (by first | decide | omega) dX12_addsMoth_19 ?_
  refine a_top (y := (nI q)) hq ?_
  refine a_istore_n C dX12_addsMoth_20 (by decide) (lst2 := [(2, .int (nI q)), (0, .ref (x_b G + 175)), (1, .int (nI i))]) rfl ?_
  refine a_iload_n C dX12_addsMoth_21 0 rfl ?_
  refine a_bipush C dX12_addsMoth_22 (v := 6) (by decide) ?_
  refine a_icmp_ne C dX12_addsMoth_24 (tgt := 33) (by decide) (fun h24 => ?_) (fun h => False.elim (x_nI_ne (k := 6) h6 (by omega) h))
  refine a_aload_n C dX12_addsMoth_33 1 rfl ?_
  refine a_getR C (k := 175) iX12 x_k175 rfl (j := 0) rfl (by decide) (by decide +kernel) dX12_addsMoth_34 ?_
  refine a_bipush C dX12_addsMoth_37 (v := 62) (by decide) ?_
  refine a_iload_n C dX12_addsMoth_39 0 rfl ?_
  refine a_iadd C dX12_addsMoth_40 ?_
  refine a_iload_n C dX12_addsMoth_41 2 rfl ?_
  refine a_iconst C dX12_addsMoth_42 (v := 1) (by decide) ?_
  refine a_iadd C dX12_addsMoth_43 ?_
  refine a_iastN C (k := 176) x_k176 (i := 62 + q) (x_add2 (a := 62) (b := q) rfl rfl) (by omega) (by first | decide | omega) dX12_addsMoth_44 ?_
  refine a_aload_n C dX12_addsMoth_45 1 rfl ?_
  refine a_getR C (k := 175) iX12 x_k175 rfl (j := 0) rfl (by decide) (by decide +kernel) dX12_addsMoth_46 ?_
  refine a_bipush C dX12_addsMoth_49 (v := 68) (by decide) ?_
  refine a_iload_n C dX12_addsMoth_51 0 rfl ?_
  refine a_iadd C dX12_addsMoth_52 ?_
  refine a_iconst C dX12_addsMoth_53 (v := 0) (by decide) ?_
  refine a_iastN C (k := 176) x_k176 (i := 68 + q) (x_add2 (a := 68) (b := q) rfl rfl) (by omega) (by first | decide | omega) dX12_addsMoth_54 ?_
  refine a_aload_n C dX12_addsMoth_55 1 rfl ?_
  refine a_getR C (k := 175) iX12 x_k175 rfl (j := 0) rfl (by decide) (by decide +kernel) dX12_addsMoth_56 ?_
  refine a_bipush C dX12_addsMoth_59 (v := 74) (by decide) ?_
  refine a_iload_n C dX12_addsMoth_61 0 rfl ?_
  refine a_iadd C dX12_addsMoth_62 ?_
  refine a_iconst C dX12_addsMoth_63 (v := 3) (by decide) ?_
  refine a_iastN C (k := 176) x_k176 (i := 74 + q) (x_add2 (a := 74) (b := q) rfl rfl) (by omega) (by first | decide | omega) dX12_addsMoth_64 ?_
  refine a_aload_n C dX12_addsMoth_65 1 rfl ?_
  refine a_getR C (k := 175) iX12 x_k175 rfl (j := 0) rfl (by decide) (by decide +kernel) dX12_addsMoth_66 ?_
  refine a_iconst C dX12_addsMoth_69 (v := 1) (by decide) ?_
  refine a_dup2 C dX12_addsMoth_70 rfl rfl ?_
  refine a_ialdN C (k := 176) x_k176 (i := 1) rfl (by decide) (by first | decide | omega) dX12_addsMoth_71 ?_
  refine a_top (y := (d 176 1)) (by first | rw [x_p_row (by omega), x_p_row (by omega), x_p_row (by omega)] | rfl) ?_
  refine a_top (y := (nI q)) hq ?_
  refine a_iconst C dX12_addsMoth_72 (v := 1) (by decide) ?_
  refine a_iadd C dX12_addsMoth_73 ?_
  refine a_top (y := (nI (q + 1))) (nI_1 q) ?_
  refine a_iastN C (k := 176) x_k176 (i := 1) rfl (by decide) (by first | decide | omega) dX12_addsMoth_74 ?_
  refine a_aload_n C dX12_addsMoth_75 1 rfl ?_
  refine a_iload_n C dX12_addsMoth_76 0 rfl ?_
  refine a_callV C (k := 175) (As := [.int (nI q)]) (rest := []) (c_M_done l G (x_p (x_p (x_p (x_p d 176 (62 + q) ((nI i) + 1)) 176 (68 + q) 0) 176 (74 + q) 3) 176 1 (nI (q + 1))) (nI q)) (cwV 1 C.1.2.2.2.2 gX12_addsMoth_X12_done rfl rfl rfl (by decide +kernel) ⟨Nat.le_of_ble_eq_true rfl, Nat.le_of_ble_eq_true rfl⟩) x_k175 (q := (RX12, TX12, 16)) rfl rfl rfl rfl (Nat.le_of_ble_eq_true rfl) dX12_addsMoth_77 ⟨Nat.le_of_ble_eq_true rfl, Nat.le_of_ble_eq_true rfl⟩ ?_
  exact a_iret C hlocks hr dX12_addsMoth_80 rfl (by simp only [g_addm, g_ok, x_p, x_r_r, x_r_same])

set_option maxHeartbeats 1000000 in
set_option maxRecDepth 100000 in
theorem c_M_movesMoth_1 (l : Launch) (G : xG) (d : xd) (x : Int32) (q : Nat) (hq : d 176 1 = nI q) (h6 : q ≤ 6) (hx : ¬ (0 ≤ x ∧ x < nI q)) (y : Int32) : x_M G l yX12_movesMoth wsX12_movesMoth 3 0 0 [.ref (x_b G + 175), .int x, .int y] d (some (.int 0)) (g_th d 1) := by
  refine x_start (cc := cX12_movesMoth) (maxL := 4) (ret := (some .int)) (own := RX12) (by decide) rfl rfl (Nat.le_of_ble_eq_true rfl) (lst := [(0, .ref (x_b G + 175)), (1, .int x), (2, .int y)]) rfl ?_
  intro p e s m args below meth c C hr hlocks
  refine a_aload_n C dX12_movesMoth_0 0 rfl ?_
  refine a_iload_n C dX12_movesMoth_1 1 rfl ?_
  refine a_callV C (k := 175) (As := [.int x]) (rest := []) (c_M_isMoth_f l G d x q hq h6 hx) (cwV 1 C.1.2.2.2.2 gX12_movesMoth_X12_isMoth rfl rfl rfl (by decide +kernel) ⟨Nat.le_of_ble_eq_true rfl, Nat.le_of_ble_eq_true rfl⟩) x_k175 (q := (RX12, TX12, 16)) rfl rfl rfl rfl (Nat.le_of_ble_eq_true rfl) dX12_movesMoth_2 ⟨Nat.le_of_ble_eq_true rfl, Nat.le_of_ble_eq_true rfl⟩ ?_
  refine a_if_eq C dX12_movesMoth_5 (tgt := 21) (by decide) (fun _ => ?_) (fun h => absurd h (by decide))
  refine a_aload_n C dX12_movesMoth_21 0 rfl ?_
  refine a_iconst C dX12_movesMoth_22 (v := 1) (by decide) ?_
  refine a_callV C (k := 175) (As := [.int 1]) (rest := []) (c_M_fails l G d 1) (cwV 1 C.1.2.2.2.2 gX12_movesMoth_X12_fails rfl rfl rfl (by decide +kernel) ⟨Nat.le_of_ble_eq_true rfl, Nat.le_of_ble_eq_true rfl⟩) x_k175 (q := (RX12, TX12, 16)) rfl rfl rfl rfl (Nat.le_of_ble_eq_true rfl) dX12_movesMoth_23 ⟨Nat.le_of_ble_eq_true rfl, Nat.le_of_ble_eq_true rfl⟩ ?_
  exact a_iret C hlocks hr dX12_movesMoth_26 rfl rfl

set_option maxHeartbeats 1000000 in
set_option maxRecDepth 100000 in
theorem c_M_movesMoth_2 (l : Launch) (G : xG) (d : xd) (i q : Nat) (hq : d 176 1 = nI q) (h6 : q ≤ 6) (hi : i < q) (x : Int32) (n : Nat) (hn : d 176 0 = nI n) (h8 : n ≤ 8) (hx : ¬ (0 ≤ x ∧ x < nI n)) (hx1 : ¬ x = -1) : x_M G l yX12_movesMoth wsX12_movesMoth 3 0 0 [.ref (x_b G + 175), .int (nI i), .int x] d (some (.int 0)) (g_th d 1) := by
  refine x_start (cc := cX12_movesMoth) (maxL := 4) (ret := (some .int)) (own := RX12) (by decide) rfl rfl (Nat.le_of_ble_eq_true rfl) (lst := [(0, .ref (x_b G + 175)), (1, .int (nI i)), (2, .int x)]) rfl ?_
  intro p e s m args below meth c C hr hlocks
  refine a_aload_n C dX12_movesMoth_0 0 rfl ?_
  refine a_iload_n C dX12_movesMoth_1 1 rfl ?_
  refine a_callV C (k := 175) (As := [.int (nI i)]) (rest := []) (c_M_isMoth_t l G d i q hq h6 hi) (cwV 1 C.1.2.2.2.2 gX12_movesMoth_X12_isMoth rfl rfl rfl (by decide +kernel) ⟨Nat.le_of_ble_eq_true rfl, Nat.le_of_ble_eq_true rfl⟩) x_k175 (q := (RX12, TX12, 16)) rfl rfl rfl rfl (Nat.le_of_ble_eq_true rfl) dX12_movesMoth_2 ⟨Nat.le_of_ble_eq_true rfl, Nat.le_of_ble_eq_true rfl⟩ ?_
  refine a_if_eq C dX12_movesMoth_5 (tgt := 21) (by decide) (fun h => absurd h (by decide)) (fun _ => ?_)
  refine a_iload_n C dX12_movesMoth_8 2 rfl ?_
  refine a_iconst C dX12_movesMoth_9 (v := -1) (by decide) ?_
  refine a_icmp_eq C dX12_movesMoth_10 (tgt := 27) (by decide) (fun h => absurd h (hx1)) (fun h10 => ?_)
  refine a_aload_n C dX12_movesMoth_13 0 rfl ?_
  refine a_iload_n C dX12_movesMoth_14 2 rfl ?_
  refine a_callV C (k := 175) (As := [.int x]) (rest := []) (c_M_isLamp_f l G d x n hn h8 hx) (cwV 1 C.1.2.2.2.2 gX12_movesMoth_X12_isLamp rfl rfl rfl (by decide +kernel) ⟨Nat.le_of_ble_eq_true rfl, Nat.le_of_ble_eq_true rfl⟩) x_k175 (q := (RX12, TX12, 16)) rfl rfl rfl rfl (Nat.le_of_ble_eq_true rfl) dX12_movesMoth_15 ⟨Nat.le_of_ble_eq_true rfl, Nat.le_of_ble_eq_true rfl⟩ ?_
  refine a_if_ne C dX12_movesMoth_18 (tgt := 27) (by decide) (fun h => absurd h (by decide)) (fun _ => ?_)
  refine a_aload_n C dX12_movesMoth_21 0 rfl ?_
  refine a_iconst C dX12_movesMoth_22 (v := 1) (by decide) ?_
  refine a_callV C (k := 175) (As := [.int 1]) (rest := []) (c_M_fails l G d 1) (cwV 1 C.1.2.2.2.2 gX12_movesMoth_X12_fails rfl rfl rfl (by decide +kernel) ⟨Nat.le_of_ble_eq_true rfl, Nat.le_of_ble_eq_true rfl⟩) x_k175 (q := (RX12, TX12, 16)) rfl rfl rfl rfl (Nat.le_of_ble_eq_true rfl) dX12_movesMoth_23 ⟨Nat.le_of_ble_eq_true rfl, Nat.le_of_ble_eq_true rfl⟩ ?_
  exact a_iret C hlocks hr dX12_movesMoth_26 rfl rfl

set_option maxHeartbeats 1000000 in
set_option maxRecDepth 100000 in
theorem c_M_movesMoth (l : Launch) (G : xG) (d : xd) (i q : Nat) (hq : d 176 1 = nI q) (h6 : q ≤ 6) (hi : i < q) (x : Int32) (n : Nat) (hn : d 176 0 = nI n) (h8 : n ≤ 8) (hx : (0 ≤ x ∧ x < nI n) ∨ x = -1) : x_M G l yX12_movesMoth wsX12_movesMoth 3 0 0 [.ref (x_b G + 175), .int (nI i), .int x] d (some (.int (d 176 (62 + i) - 1))) (g_ok d (upd (d 176) (62 + i) (x + 1))) := by
  have iX12 : ∀ w ∈ u_ws RX12 TX12 16, w ∈ wsX12_movesMoth := by decide +kernel
  refine x_start (cc := cX12_movesMoth) (maxL := 4) (ret := (some .int)) (own := RX12) (by decide) rfl rfl (Nat.le_of_ble_eq_true rfl) (lst := [(0, .ref (x_b G + 175)), (1, .int (nI i)), (2, .int x)]) rfl ?_
  intro p e s m args below meth c C hr hlocks
  refine a_aload_n C dX12_movesMoth_0 0 rfl ?_
  refine a_iload_n C dX12_movesMoth_1 1 rfl ?_
  refine a_callV C (k := 175) (As := [.int (nI i)]) (rest := []) (c_M_isMoth_t l G d i q hq h6 hi) (cwV 1 C.1.2.2.2.2 gX12_movesMoth_X12_isMoth rfl rfl rfl (by decide +kernel) ⟨Nat.le_of_ble_eq_true rfl, Nat.le_of_ble_eq_true rfl⟩) x_k175 (q := (RX12, TX12, 16)) rfl rfl rfl rfl (Nat.le_of_ble_eq_true rfl) dX12_movesMoth_2 ⟨Nat.le_of_ble_eq_true rfl, Nat.le_of_ble_eq_true rfl⟩ ?_
  refine a_if_eq C dX12_movesMoth_5 (tgt := 21) (by decide) (fun h => absurd h (by decide)) (fun _ => ?_)
  refine a_iload_n C dX12_movesMoth_8 2 rfl ?_
  refine a_iconst C dX12_movesMoth_9 (v := -1) (by decide) ?_
  refine a_icmp_eq C dX12_movesMoth_10 (tgt := 27) (by decide) (fun h10 => ?_) (fun h10 => ?_)
  · skip
    refine a_aload_n C dX12_movesMoth_27 0 rfl ?_
    refine a_getR C (k := 175) iX12 x_k175 rfl (j := 0) rfl (by decide) (by decide +kernel) dX12_movesMoth_28 ?_
    refine a_bipush C dX12_movesMoth_31 (v := 62) (by decide) ?_
    refine a_iload_n C dX12_movesMoth_33 1 rfl ?_
    refine a_iadd C dX12_movesMoth_34 ?_
    refine a_ialdN C (k := 176) x_k176 (i := 62 + i) (x_add2 (a := 62) (b := i) rfl rfl) (by omega) (by first | decide | omega) dX12_movesMoth_35 ?_
    refine a_iconst C dX12_movesMoth_36 (v := 1) (by decide) ?_
    refine a_isub C dX12_movesMoth_37 ?_
    refine a_istore_n C dX12_movesMoth_38 (by decide) (lst2 := [(3, .int ((d 176 (62 + i)) - 1)), (0, .ref (x_b G + 175)), (1, .int (nI i)), (2, .int x)]) rfl ?_
    refine a_aload_n C dX12_movesMoth_39 1 rfl ?_
    refine a_getR C (k := 175) iX12 x_k175 rfl (j := 0) rfl (by decide) (by decide +kernel) dX12_movesMoth_40 ?_
    refine a_bipush C dX12_movesMoth_43 (v := 62) (by decide) ?_
    refine a_iload_n C dX12_movesMoth_45 2 rfl ?_
    refine a_iadd C dX12_movesMoth_46 ?_
    refine a_iload_n C dX12_movesMoth_47 3 rfl ?_
    refine a_iconst C dX12_movesMoth_48 (v := 1) (by decide) ?_
    refine a_iadd C dX12_movesMoth_49 ?_
    refine a_iastN C (k := 176) x_k176 (i := 62 + i) (x_add2 (a := 62) (b := i) rfl rfl) (by omega) (by first | decide | omega) dX12_movesMoth_50 ?_
    refine a_aload_n C dX12_movesMoth_51 1 rfl ?_
    refine a_iload_n C dX12_movesMoth_52 0 rfl ?_
    refine a_callV C (k := 175) (As := [.int ((d 176 (62 + i)) - 1)]) (rest := []) (c_M_done l G (x_p d 176 (62 + i) (x + 1)) ((d 176 (62 + i)) - 1)) (cwV 1 C.1.2.2.2.2 gX12_movesMoth_X12_done rfl rfl rfl (by decide +kernel) ⟨Nat.le_of_ble_eq_true rfl, Nat.le_of_ble_eq_true rfl⟩) x_k175 (q := (RX12, TX12, 16)) rfl rfl rfl rfl (Nat.le_of_ble_eq_true rfl) dX12_movesMoth_53 ⟨Nat.le_of_ble_eq_true rfl, Nat.le_of_ble_eq_true rfl⟩ ?_
    exact a_iret C hlocks hr dX12_movesMoth_56 rfl rfl
  · skip
    refine a_aload_n C dX12_movesMoth_13 0 rfl ?_
    refine a_iload_n C dX12_movesMoth_14 2 rfl ?_
    refine a_callV C (k := 175) (As := [.int x]) (rest := []) (c_M_isLamp l G d x n hn h8) (cwV 1 C.1.2.2.2.2 gX12_movesMoth_X12_isLamp rfl rfl rfl (by decide +kernel) ⟨Nat.le_of_ble_eq_true rfl, Nat.le_of_ble_eq_true rfl⟩) x_k175 (q := (RX12, TX12, 16)) rfl rfl rfl rfl (Nat.le_of_ble_eq_true rfl) dX12_movesMoth_15 ⟨Nat.le_of_ble_eq_true rfl, Nat.le_of_ble_eq_true rfl⟩ ?_
    refine a_if_ne C dX12_movesMoth_18 (tgt := 27) (by decide) (fun h18 => ?_) (fun h18 => ?_)
    · skip
      refine a_aload_n C dX12_movesMoth_27 0 rfl ?_
      refine a_getR C (k := 175) iX12 x_k175 rfl (j := 0) rfl (by decide) (by decide +kernel) dX12_movesMoth_28 ?_
      refine a_bipush C dX12_movesMoth_31 (v := 62) (by decide) ?_
      refine a_iload_n C dX12_movesMoth_33 1 rfl ?_
      refine a_iadd C dX12_movesMoth_34 ?_
      refine a_ialdN C (k := 176) x_k176 (i := 62 + i) (x_add2 (a := 62) (b := i) rfl rfl) (by omega) (by first | decide | omega) dX12_movesMoth_35 ?_
      refine a_iconst C dX12_movesMoth_36 (v := 1) (by decide) ?_
      refine a_isub C dX12_movesMoth_37 ?_
      refine a_istore_n C dX12_movesMoth_38 (by decide) (lst2 := [(3, .int ((d 176 (62 + i)) - 1)), (0, .ref (x_b G + 175)), (1, .int (nI i)), (2, .int x)]) rfl ?_
      refine a_aload_n C dX12_movesMoth_39 1 rfl ?_
      refine a_getR C (k := 175) iX12 x_k175 rfl (j := 0) rfl (by decide) (by decide +kernel) dX12_movesMoth_40 ?_
      refine a_bipush C dX12_movesMoth_43 (v := 62) (by decide) ?_
      refine a_iload_n C dX12_movesMoth_45 2 rfl ?_
      refine a_iadd C dX12_movesMoth_46 ?_
      refine a_iload_n C dX12_movesMoth_47 3 rfl ?_
      refine a_iconst C dX12_movesMoth_48 (v := 1) (by decide) ?_
      refine a_iadd C dX12_movesMoth_49 ?_
      refine a_iastN C (k := 176) x_k176 (i := 62 + i) (x_add2 (a := 62) (b := i) rfl rfl) (by omega) (by first | decide | omega) dX12_movesMoth_50 ?_
      refine a_aload_n C dX12_movesMoth_51 1 rfl ?_
      refine a_iload_n C dX12_movesMoth_52 0 rfl ?_
      refine a_callV C (k := 175) (As := [.int ((d 176 (62 + i)) - 1)]) (rest := []) (c_M_done l G (x_p d 176 (62 + i) (x + 1)) ((d 176 (62 + i)) - 1)) (cwV 1 C.1.2.2.2.2 gX12_movesMoth_X12_done rfl rfl rfl (by decide +kernel) ⟨Nat.le_of_ble_eq_true rfl, Nat.le_of_ble_eq_true rfl⟩) x_k175 (q := (RX12, TX12, 16)) rfl rfl rfl rfl (Nat.le_of_ble_eq_true rfl) dX12_movesMoth_53 ⟨Nat.le_of_ble_eq_true rfl, Nat.le_of_ble_eq_true rfl⟩ ?_
      exact a_iret C hlocks hr dX12_movesMoth_56 rfl rfl
    · skip
      exact ((x_bi_z h18) (hx.resolve_right h10)).elim

set_option maxHeartbeats 1000000 in
set_option maxRecDepth 100000 in
theorem c_M_lampOfMoth_1 (l : Launch) (G : xG) (d : xd) (x : Int32) (q : Nat) (hq : d 176 1 = nI q) (h6 : q ≤ 6) (hx : ¬ (0 ≤ x ∧ x < nI q)) : x_M G l yX12_lampOfMoth wsX12_lampOfMoth 3 0 0 [.ref (x_b G + 175), .int x] d (some (.int 0)) (g_th d 1) := by
  refine x_start (cc := cX12_lampOfMoth) (maxL := 2) (ret := (some .int)) (own := RX12) (by decide) rfl rfl (Nat.le_of_ble_eq_true rfl) (lst := [(0, .ref (x_b G + 175)), (1, .int x)]) rfl ?_
  intro p e s m args below meth c C hr hlocks
  refine a_aload_n C dX12_lampOfMoth_0 0 rfl ?_
  refine a_iload_n C dX12_lampOfMoth_1 1 rfl ?_
  refine a_callV C (k := 175) (As := [.int x]) (rest := []) (c_M_isMoth_f l G d x q hq h6 hx) (cwV 1 C.1.2.2.2.2 gX12_lampOfMoth_X12_isMoth rfl rfl rfl (by decide +kernel) ⟨Nat.le_of_ble_eq_true rfl, Nat.le_of_ble_eq_true rfl⟩) x_k175 (q := (RX12, TX12, 16)) rfl rfl rfl rfl (Nat.le_of_ble_eq_true rfl) dX12_lampOfMoth_2 ⟨Nat.le_of_ble_eq_true rfl, Nat.le_of_ble_eq_true rfl⟩ ?_
  refine a_if_eq C dX12_lampOfMoth_5 (tgt := 26) (by decide) (fun _ => ?_) (fun h => absurd h (by decide))
  refine a_aload_n C dX12_lampOfMoth_26 0 rfl ?_
  refine a_iconst C dX12_lampOfMoth_27 (v := 1) (by decide) ?_
  refine a_callV C (k := 175) (As := [.int 1]) (rest := []) (c_M_fails l G d 1) (cwV 1 C.1.2.2.2.2 gX12_lampOfMoth_X12_fails rfl rfl rfl (by decide +kernel) ⟨Nat.le_of_ble_eq_true rfl, Nat.le_of_ble_eq_true rfl⟩) x_k175 (q := (RX12, TX12, 16)) rfl rfl rfl rfl (Nat.le_of_ble_eq_true rfl) dX12_lampOfMoth_28 ⟨Nat.le_of_ble_eq_true rfl, Nat.le_of_ble_eq_true rfl⟩ ?_
  exact a_iret C hlocks hr dX12_lampOfMoth_31 rfl rfl

set_option maxHeartbeats 1000000 in
set_option maxRecDepth 100000 in
theorem c_M_lampOfMoth (l : Launch) (G : xG) (d : xd) (i q : Nat) (hq : d 176 1 = nI q) (h6 : q ≤ 6) (hi : i < q) : x_M G l yX12_lampOfMoth wsX12_lampOfMoth 3 0 0 [.ref (x_b G + 175), .int (nI i)] d (some (.int (d 176 (62 + i) - 1))) (g_th d 0) := by
  have iX12 : ∀ w ∈ u_ws RX12 TX12 16, w ∈ wsX12_lampOfMoth := by decide +kernel
  refine x_start (cc := cX12_lampOfMoth) (maxL := 2) (ret := (some .int)) (own := RX12) (by decide) rfl rfl (Nat.le_of_ble_eq_true rfl) (lst := [(0, .ref (x_b G + 175)), (1, .int (nI i))]) rfl ?_
  intro p e s m args below meth c C hr hlocks
  refine a_aload_n C dX12_lampOfMoth_0 0 rfl ?_
  refine a_iload_n C dX12_lampOfMoth_1 1 rfl ?_
  refine a_callV C (k := 175) (As := [.int (nI i)]) (rest := []) (c_M_isMoth_t l G d i q hq h6 hi) (cwV 1 C.1.2.2.2.2 gX12_lampOfMoth_X12_isMoth rfl rfl rfl (by decide +kernel) ⟨Nat.le_of_ble_eq_true rfl, Nat.le_of_ble_eq_true rfl⟩) x_k175 (q := (RX12, TX12, 16)) rfl rfl rfl rfl (Nat.le_of_ble_eq_true rfl) dX12_lampOfMoth_2 ⟨Nat.le_of_ble_eq_true rfl, Nat.le_of_ble_eq_true rfl⟩ ?_
  refine a_if_eq C dX12_lampOfMoth_5 (tgt := 26) (by decide) (fun h => absurd h (by decide)) (fun _ => ?_)
  refine a_aload_n C dX12_lampOfMoth_8 0 rfl ?_
  refine a_aload_n C dX12_lampOfMoth_9 0 rfl ?_
  refine a_getR C (k := 175) iX12 x_k175 rfl (j := 0) rfl (by decide) (by decide +kernel) dX12_lampOfMoth_10 ?_
  refine a_bipush C dX12_lampOfMoth_13 (v := 62) (by decide) ?_
  refine a_iload_n C dX12_lampOfMoth_15 1 rfl ?_
  refine a_iadd C dX12_lampOfMoth_16 ?_
  refine a_ialdN C (k := 176) x_k176 (i := 62 + i) (x_add2 (a := 62) (b := i) rfl rfl) (by omega) (by first | decide | omega) dX12_lampOfMoth_17 ?_
  refine a_iconst C dX12_lampOfMoth_18 (v := 1) (by decide) ?_
  refine a_isub C dX12_lampOfMoth_19 ?_
  refine a_callV C (k := 175) (As := [.int ((d 176 (62 + i)) - 1)]) (rest := []) (c_M_done l G d ((d 176 (62 + i)) - 1)) (cwV 1 C.1.2.2.2.2 gX12_lampOfMoth_X12_done rfl rfl rfl (by decide +kernel) ⟨Nat.le_of_ble_eq_true rfl, Nat.le_of_ble_eq_true rfl⟩) x_k175 (q := (RX12, TX12, 16)) rfl rfl rfl rfl (Nat.le_of_ble_eq_true rfl) dX12_lampOfMoth_20 ⟨Nat.le_of_ble_eq_true rfl, Nat.le_of_ble_eq_true rfl⟩ ?_
  refine a_goto C dX12_lampOfMoth_23 (tgt := 31) (by decide) ?_
  exact a_iret C hlocks hr dX12_lampOfMoth_31 rfl rfl

set_option maxHeartbeats 1000000 in
set_option maxRecDepth 100000 in
theorem c_M_strikesOf_1 (l : Launch) (G : xG) (d : xd) (x : Int32) (q : Nat) (hq : d 176 1 = nI q) (h6 : q ≤ 6) (hx : ¬ (0 ≤ x ∧ x < nI q)) : x_M G l yX12_strikesOf wsX12_strikesOf 3 0 0 [.ref (x_b G + 175), .int x] d (some (.int 0)) (g_th d 1) := by
  refine x_start (cc := cX12_strikesOf) (maxL := 2) (ret := (some .int)) (own := RX12) (by decide) rfl rfl (Nat.le_of_ble_eq_true rfl) (lst := [(0, .ref (x_b G + 175)), (1, .int x)]) rfl ?_
  intro p e s m args below meth c C hr hlocks
  refine a_aload_n C dX12_strikesOf_0 0 rfl ?_
  refine a_iload_n C dX12_strikesOf_1 1 rfl ?_
  refine a_callV C (k := 175) (As := [.int x]) (rest := []) (c_M_isMoth_f l G d x q hq h6 hx) (cwV 1 C.1.2.2.2.2 gX12_strikesOf_X12_isMoth rfl rfl rfl (by decide +kernel) ⟨Nat.le_of_ble_eq_true rfl, Nat.le_of_ble_eq_true rfl⟩) x_k175 (q := (RX12, TX12, 16)) rfl rfl rfl rfl (Nat.le_of_ble_eq_true rfl) dX12_strikesOf_2 ⟨Nat.le_of_ble_eq_true rfl, Nat.le_of_ble_eq_true rfl⟩ ?_
  refine a_if_eq C dX12_strikesOf_5 (tgt := 24) (by decide) (fun _ => ?_) (fun h => absurd h (by decide))
  refine a_aload_n C dX12_strikesOf_24 0 rfl ?_
  refine a_iconst C dX12_strikesOf_25 (v := 1) (by decide) ?_
  refine a_callV C (k := 175) (As := [.int 1]) (rest := []) (c_M_fails l G d 1) (cwV 1 C.1.2.2.2.2 gX12_strikesOf_X12_fails rfl rfl rfl (by decide +kernel) ⟨Nat.le_of_ble_eq_true rfl, Nat.le_of_ble_eq_true rfl⟩) x_k175 (q := (RX12, TX12, 16)) rfl rfl rfl rfl (Nat.le_of_ble_eq_true rfl) dX12_strikesOf_26 ⟨Nat.le_of_ble_eq_true rfl, Nat.le_of_ble_eq_true rfl⟩ ?_
  exact a_iret C hlocks hr dX12_strikesOf_29 rfl rfl

set_option maxHeartbeats 1000000 in
set_option maxRecDepth 100000 in
theorem c_M_strikesOf (l : Launch) (G : xG) (d : xd) (i q : Nat) (hq : d 176 1 = nI q) (h6 : q ≤ 6) (hi : i < q) : x_M G l yX12_strikesOf wsX12_strikesOf 3 0 0 [.ref (x_b G + 175), .int (nI i)] d (some (.int (d 176 (68 + i)))) (g_th d 0) := by
  have iX12 : ∀ w ∈ u_ws RX12 TX12 16, w ∈ wsX12_strikesOf := by decide +kernel
  refine x_start (cc := cX12_strikesOf) (maxL := 2) (ret := (some .int)) (own := RX12) (by decide) rfl rfl (Nat.le_of_ble_eq_true rfl) (lst := [(0, .ref (x_b G + 175)), (1, .int (nI i))]) rfl ?_
  intro p e s m args below meth c C hr hlocks
  refine a_aload_n C dX12_strikesOf_0 0 rfl ?_
  refine a_iload_n C dX12_strikesOf_1 1 rfl ?_
  refine a_callV C (k := 175) (As := [.int (nI i)]) (rest := []) (c_M_isMoth_t l G d i q hq h6 hi) (cwV 1 C.1.2.2.2.2 gX12_strikesOf_X12_isMoth rfl rfl rfl (by decide +kernel) ⟨Nat.le_of_ble_eq_true rfl, Nat.le_of_ble_eq_true rfl⟩) x_k175 (q := (RX12, TX12, 16)) rfl rfl rfl rfl (Nat.le_of_ble_eq_true rfl) dX12_strikesOf_2 ⟨Nat.le_of_ble_eq_true rfl, Nat.le_of_ble_eq_true rfl⟩ ?_
  refine a_if_eq C dX12_strikesOf_5 (tgt := 24) (by decide) (fun h => absurd h (by decide)) (fun _ => ?_)
  refine a_aload_n C dX12_strikesOf_8 0 rfl ?_
  refine a_aload_n C dX12_strikesOf_9 0 rfl ?_
  refine a_getR C (k := 175) iX12 x_k175 rfl (j := 0) rfl (by decide) (by decide +kernel) dX12_strikesOf_10 ?_
  refine a_bipush C dX12_strikesOf_13 (v := 68) (by decide) ?_
  refine a_iload_n C dX12_strikesOf_15 1 rfl ?_
  refine a_iadd C dX12_strikesOf_16 ?_
  refine a_ialdN C (k := 176) x_k176 (i := 68 + i) (x_add2 (a := 68) (b := i) rfl rfl) (by omega) (by first | decide | omega) dX12_strikesOf_17 ?_
  refine a_callV C (k := 175) (As := [.int (d 176 (68 + i))]) (rest := []) (c_M_done l G d (d 176 (68 + i))) (cwV 1 C.1.2.2.2.2 gX12_strikesOf_X12_done rfl rfl rfl (by decide +kernel) ⟨Nat.le_of_ble_eq_true rfl, Nat.le_of_ble_eq_true rfl⟩) x_k175 (q := (RX12, TX12, 16)) rfl rfl rfl rfl (Nat.le_of_ble_eq_true rfl) dX12_strikesOf_18 ⟨Nat.le_of_ble_eq_true rfl, Nat.le_of_ble_eq_true rfl⟩ ?_
  refine a_goto C dX12_strikesOf_21 (tgt := 29) (by decide) ?_
  exact a_iret C hlocks hr dX12_strikesOf_29 rfl rfl

set_option maxHeartbeats 1000000 in
set_option maxRecDepth 100000 in
theorem c_M_probationOf_1 (l : Launch) (G : xG) (d : xd) (x : Int32) (q : Nat) (hq : d 176 1 = nI q) (h6 : q ≤ 6) (hx : ¬ (0 ≤ x ∧ x < nI q)) : x_M G l yX12_probationOf wsX12_probationOf 3 0 0 [.ref (x_b G + 175), .int x] d (some (.int 0)) (g_th d 1) := by
  refine x_start (cc := cX12_probationOf) (maxL := 2) (ret := (some .int)) (own := RX12) (by decide) rfl rfl (Nat.le_of_ble_eq_true rfl) (lst := [(0, .ref (x_b G + 175)), (1, .int x)]) rfl ?_
  intro p e s m args below meth c C hr hlocks
  refine a_aload_n C dX12_probationOf_0 0 rfl ?_
  refine a_iload_n C dX12_probationOf_1 1 rfl ?_
  refine a_callV C (k := 175) (As := [.int x]) (rest := []) (c_M_isMoth_f l G d x q hq h6 hx) (cwV 1 C.1.2.2.2.2 gX12_probationOf_X12_isMoth rfl rfl rfl (by decide +kernel) ⟨Nat.le_of_ble_eq_true rfl, Nat.le_of_ble_eq_true rfl⟩) x_k175 (q := (RX12, TX12, 16)) rfl rfl rfl rfl (Nat.le_of_ble_eq_true rfl) dX12_probationOf_2 ⟨Nat.le_of_ble_eq_true rfl, Nat.le_of_ble_eq_true rfl⟩ ?_
  refine a_if_eq C dX12_probationOf_5 (tgt := 24) (by decide) (fun _ => ?_) (fun h => absurd h (by decide))
  refine a_aload_n C dX12_probationOf_24 0 rfl ?_
  refine a_iconst C dX12_probationOf_25 (v := 1) (by decide) ?_
  refine a_callV C (k := 175) (As := [.int 1]) (rest := []) (c_M_fails l G d 1) (cwV 1 C.1.2.2.2.2 gX12_probationOf_X12_fails rfl rfl rfl (by decide +kernel) ⟨Nat.le_of_ble_eq_true rfl, Nat.le_of_ble_eq_true rfl⟩) x_k175 (q := (RX12, TX12, 16)) rfl rfl rfl rfl (Nat.le_of_ble_eq_true rfl) dX12_probationOf_26 ⟨Nat.le_of_ble_eq_true rfl, Nat.le_of_ble_eq_true rfl⟩ ?_
  exact a_iret C hlocks hr dX12_probationOf_29 rfl rfl

set_option maxHeartbeats 1000000 in
set_option maxRecDepth 100000 in
theorem c_M_probationOf (l : Launch) (G : xG) (d : xd) (i q : Nat) (hq : d 176 1 = nI q) (h6 : q ≤ 6) (hi : i < q) : x_M G l yX12_probationOf wsX12_probationOf 3 0 0 [.ref (x_b G + 175), .int (nI i)] d (some (.int (d 176 (74 + i)))) (g_th d 0) := by
  have iX12 : ∀ w ∈ u_ws RX12 TX12 16, w ∈ wsX12_probationOf := by decide +kernel
  refine x_start (cc := cX12_probationOf) (maxL := 2) (ret := (some .int)) (own := RX12) (by decide) rfl rfl (Nat.le_of_ble_eq_true rfl) (lst := [(0, .ref (x_b G + 175)), (1, .int (nI i))]) rfl ?_
  intro p e s m args below meth c C hr hlocks
  refine a_aload_n C dX12_probationOf_0 0 rfl ?_
  refine a_iload_n C dX12_probationOf_1 1 rfl ?_
  refine a_callV C (k := 175) (As := [.int (nI i)]) (rest := []) (c_M_isMoth_t l G d i q hq h6 hi) (cwV 1 C.1.2.2.2.2 gX12_probationOf_X12_isMoth rfl rfl rfl (by decide +kernel) ⟨Nat.le_of_ble_eq_true rfl, Nat.le_of_ble_eq_true rfl⟩) x_k175 (q := (RX12, TX12, 16)) rfl rfl rfl rfl (Nat.le_of_ble_eq_true rfl) dX12_probationOf_2 ⟨Nat.le_of_ble_eq_true rfl, Nat.le_of_ble_eq_true rfl⟩ ?_
  refine a_if_eq C dX12_probationOf_5 (tgt := 24) (by decide) (fun h => absurd h (by decide)) (fun _ => ?_)
  refine a_aload_n C dX12_probationOf_8 0 rfl ?_
  refine a_aload_n C dX12_probationOf_9 0 rfl ?_
  refine a_getR C (k := 175) iX12 x_k175 rfl (j := 0) rfl (by decide) (by decide +kernel) dX12_probationOf_10 ?_
  refine a_bipush C dX12_probationOf_13 (v := 74) (by decide) ?_
  refine a_iload_n C dX12_probationOf_15 1 rfl ?_
  refine a_iadd C dX12_probationOf_16 ?_
  refine a_ialdN C (k := 176) x_k176 (i := 74 + i) (x_add2 (a := 74) (b := i) rfl rfl) (by omega) (by first | decide | omega) dX12_probationOf_17 ?_
  refine a_callV C (k := 175) (As := [.int (d 176 (74 + i))]) (rest := []) (c_M_done l G d (d 176 (74 + i))) (cwV 1 C.1.2.2.2.2 gX12_probationOf_X12_done rfl rfl rfl (by decide +kernel) ⟨Nat.le_of_ble_eq_true rfl, Nat.le_of_ble_eq_true rfl⟩) x_k175 (q := (RX12, TX12, 16)) rfl rfl rfl rfl (Nat.le_of_ble_eq_true rfl) dX12_probationOf_18 ⟨Nat.le_of_ble_eq_true rfl, Nat.le_of_ble_eq_true rfl⟩ ?_
  refine a_goto C dX12_probationOf_21 (tgt := 29) (by decide) ?_
  exact a_iret C hlocks hr dX12_probationOf_29 rfl rfl

set_option maxHeartbeats 1000000 in
set_option maxRecDepth 100000 in
theorem c_M_isMember_1 (l : Launch) (G : xG) (d : xd) (x : Int32) (q : Nat) (hq : d 176 1 = nI q) (h6 : q ≤ 6) (hx : ¬ (0 ≤ x ∧ x < nI q)) : x_M G l yX12_isMember wsX12_isMember 3 0 0 [.ref (x_b G + 175), .int x] d (some (.int 0)) (g_th d 1) := by
  have iX12 : ∀ w ∈ u_ws RX12 TX12 16, w ∈ wsX12_isMember := by decide +kernel
  refine x_start (cc := cX12_isMember) (maxL := 2) (ret := (some .boolean)) (own := RX12) (by decide) rfl rfl (Nat.le_of_ble_eq_true rfl) (lst := [(0, .ref (x_b G + 175)), (1, .int x)]) rfl ?_
  intro p e s m args below meth c C hr hlocks
  refine a_aload_n C dX12_isMember_0 0 rfl ?_
  refine a_aload_n C dX12_isMember_1 0 rfl ?_
  refine a_iload_n C dX12_isMember_2 1 rfl ?_
  refine a_callV C (k := 175) (As := [.int x]) (rest := [.ref (x_b G + 175)]) (c_M_isMoth_f l G d x q hq h6 hx) (cwV 1 C.1.2.2.2.2 gX12_isMember_X12_isMoth rfl rfl rfl (by decide +kernel) ⟨Nat.le_of_ble_eq_true rfl, Nat.le_of_ble_eq_true rfl⟩) x_k175 (q := (RX12, TX12, 16)) rfl rfl rfl rfl (Nat.le_of_ble_eq_true rfl) dX12_isMember_3 ⟨Nat.le_of_ble_eq_true rfl, Nat.le_of_ble_eq_true rfl⟩ ?_
  refine a_if_eq C dX12_isMember_6 (tgt := 13) (by decide) (fun _ => ?_) (fun h => absurd h (by decide))
  refine a_iconst C dX12_isMember_13 (v := 1) (by decide) ?_
  refine a_putI C (k := 175) iX12 tyX12_ok nmX12 x_k175 rfl (j := 12) rfl (by decide) (by decide +kernel) rfl (ty := .int) (by decide +kernel) rfl rfl dX12_isMember_14 ?_
  refine a_aload_n C dX12_isMember_17 0 rfl ?_
  refine a_getI C (k := 175) iX12 x_k175 rfl (j := 12) rfl (by decide) (by decide +kernel) dX12_isMember_18 ?_
  refine a_top (y := 1) (by first | rw [x_p_at] | rfl) ?_
  refine a_top (y := 1) rfl ?_
  refine a_if_ne C dX12_isMember_21 (tgt := 40) (by decide) (fun _ => ?_) (fun h => absurd h (by decide))
  refine a_iconst C dX12_isMember_40 (v := 0) (by decide) ?_
  exact a_zret C hlocks hr rfl dX12_isMember_41 rfl rfl

set_option maxHeartbeats 1000000 in
set_option maxRecDepth 100000 in
theorem c_M_isMember (l : Launch) (G : xG) (d : xd) (i q : Nat) (hq : d 176 1 = nI q) (h6 : q ≤ 6) (hi : i < q) : x_M G l yX12_isMember wsX12_isMember 3 0 0 [.ref (x_b G + 175), .int (nI i)] d (some (.int (x_bi (d 176 (74 + i) = 0)))) (g_th d 0) := by
  have iX12 : ∀ w ∈ u_ws RX12 TX12 16, w ∈ wsX12_isMember := by decide +kernel
  refine x_start (cc := cX12_isMember) (maxL := 2) (ret := (some .boolean)) (own := RX12) (by decide) rfl rfl (Nat.le_of_ble_eq_true rfl) (lst := [(0, .ref (x_b G + 175)), (1, .int (nI i))]) rfl ?_
  intro p e s m args below meth c C hr hlocks
  refine a_aload_n C dX12_isMember_0 0 rfl ?_
  refine a_aload_n C dX12_isMember_1 0 rfl ?_
  refine a_iload_n C dX12_isMember_2 1 rfl ?_
  refine a_callV C (k := 175) (As := [.int (nI i)]) (rest := [.ref (x_b G + 175)]) (c_M_isMoth_t l G d i q hq h6 hi) (cwV 1 C.1.2.2.2.2 gX12_isMember_X12_isMoth rfl rfl rfl (by decide +kernel) ⟨Nat.le_of_ble_eq_true rfl, Nat.le_of_ble_eq_true rfl⟩) x_k175 (q := (RX12, TX12, 16)) rfl rfl rfl rfl (Nat.le_of_ble_eq_true rfl) dX12_isMember_3 ⟨Nat.le_of_ble_eq_true rfl, Nat.le_of_ble_eq_true rfl⟩ ?_
  refine a_if_eq C dX12_isMember_6 (tgt := 13) (by decide) (fun h => absurd h (by decide)) (fun _ => ?_)
  refine a_iconst C dX12_isMember_9 (v := 0) (by decide) ?_
  refine a_goto C dX12_isMember_10 (tgt := 14) (by decide) ?_
  refine a_putI C (k := 175) iX12 tyX12_ok nmX12 x_k175 rfl (j := 12) rfl (by decide) (by decide +kernel) rfl (ty := .int) (by decide +kernel) rfl rfl dX12_isMember_14 ?_
  refine a_aload_n C dX12_isMember_17 0 rfl ?_
  refine a_getI C (k := 175) iX12 x_k175 rfl (j := 12) rfl (by decide) (by decide +kernel) dX12_isMember_18 ?_
  refine a_top (y := 0) (by first | rw [x_p_at] | rfl) ?_
  refine a_top (y := 0) rfl ?_
  refine a_if_ne C dX12_isMember_21 (tgt := 40) (by decide) (fun h => absurd h (by decide)) (fun _ => ?_)
  refine a_aload_n C dX12_isMember_24 0 rfl ?_
  refine a_getR C (k := 175) iX12 x_k175 rfl (j := 0) rfl (by decide) (by decide +kernel) dX12_isMember_25 ?_
  refine a_bipush C dX12_isMember_28 (v := 74) (by decide) ?_
  refine a_iload_n C dX12_isMember_30 1 rfl ?_
  refine a_iadd C dX12_isMember_31 ?_
  refine a_ialdN C (k := 176) x_k176 (i := 74 + i) (x_add2 (a := 74) (b := i) rfl rfl) (by omega) (by first | decide | omega) dX12_isMember_32 ?_
  refine a_top (y := (d 176 (74 + i))) (by first | rw [x_p_ne (by omega)] | rfl) ?_
  refine a_if_ne C dX12_isMember_33 (tgt := 40) (by decide) (fun h33 => ?_) (fun h33 => ?_)
  · skip
    refine a_iconst C dX12_isMember_40 (v := 0) (by decide) ?_
    exact a_zret C hlocks hr rfl dX12_isMember_41 (x_bi_f h33).symm rfl
  · skip
    refine a_iconst C dX12_isMember_36 (v := 1) (by decide) ?_
    refine a_goto C dX12_isMember_37 (tgt := 41) (by decide) ?_
    exact a_zret C hlocks hr rfl dX12_isMember_41 (x_bi_t h33).symm rfl

