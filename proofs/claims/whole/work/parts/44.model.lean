set_option maxHeartbeats 1000000 in
set_option maxRecDepth 100000 in
theorem c_M_measure_1 (l : Launch) (G : xG) (d : xd) (i : Nat) (hi : i < 8) : x_M G l yX12_measure wsX12_measure 3 0 0 [.ref (x_b G + 175), .int (nI i), .int 1] d (some (.int (d 176 (54 + i)))) d := by
  have iX12 : ∀ w ∈ u_ws RX12 TX12 16, w ∈ wsX12_measure := by decide +kernel
  refine x_start (cc := cX12_measure) (maxL := 3) (ret := (some .int)) (own := RX12) (by decide) rfl rfl (Nat.le_of_ble_eq_true rfl) (lst := [(0, .ref (x_b G + 175)), (1, .int (nI i)), (2, .int 1)]) rfl ?_
  intro p e s m args below meth c C hr hlocks
  refine a_iload_n C dX12_measure_0 2 rfl ?_
  refine a_if_eq C dX12_measure_1 (tgt := 16) (by decide) (fun h => absurd h (by decide)) (fun _ => ?_)
  refine a_aload_n C dX12_measure_4 0 rfl ?_
  refine a_getR C (k := 175) iX12 x_k175 rfl (j := 0) rfl (by decide) (by decide +kernel) dX12_measure_5 ?_
  refine a_bipush C dX12_measure_8 (v := 54) (by decide) ?_
  refine a_iload_n C dX12_measure_10 1 rfl ?_
  refine a_iadd C dX12_measure_11 ?_
  refine a_ialdN C (k := 176) x_k176 (i := 54 + i) (x_add2 (a := 54) (b := i) rfl rfl) (by omega) (by first | decide | omega) dX12_measure_12 ?_
  refine a_goto C dX12_measure_13 (tgt := 21) (by decide) ?_
  exact a_iret C hlocks hr dX12_measure_21 rfl rfl

set_option maxHeartbeats 1000000 in
set_option maxRecDepth 100000 in
theorem c_M_measure_0 (l : Launch) (G : xG) (d : xd) (i : Nat) (hi : i < 8) (hb : ¬ d 176 (22 + i) = 0) : x_M G l yX12_measure wsX12_measure 3 0 0 [.ref (x_b G + 175), .int (nI i), .int 0] d (some (.int (g_las (d 176) i))) d := by
  refine x_start (cc := cX12_measure) (maxL := 3) (ret := (some .int)) (own := RX12) (by decide) rfl rfl (Nat.le_of_ble_eq_true rfl) (lst := [(0, .ref (x_b G + 175)), (1, .int (nI i)), (2, .int 0)]) rfl ?_
  intro p e s m args below meth c C hr hlocks
  refine a_iload_n C dX12_measure_0 2 rfl ?_
  refine a_if_eq C dX12_measure_1 (tgt := 16) (by decide) (fun _ => ?_) (fun h => absurd h (by decide))
  refine a_aload_n C dX12_measure_16 0 rfl ?_
  refine a_iload_n C dX12_measure_17 1 rfl ?_
  refine a_callV C (k := 175) (As := [.int (nI i)]) (rest := []) (c_M_lasting l G d i hi hb) (cwV 1 C.1.2.2.2.2 gX12_measure_X12_lasting rfl rfl rfl (by decide +kernel) ⟨Nat.le_of_ble_eq_true rfl, Nat.le_of_ble_eq_true rfl⟩) x_k175 (q := (RX12, TX12, 16)) rfl rfl rfl rfl (Nat.le_of_ble_eq_true rfl) dX12_measure_18 ⟨Nat.le_of_ble_eq_true rfl, Nat.le_of_ble_eq_true rfl⟩ ?_
  exact a_iret C hlocks hr dX12_measure_21 rfl rfl

set_option maxHeartbeats 1000000 in
set_option maxRecDepth 100000 in
theorem c_M_ranked_1 (l : Launch) (G : xG) (d : xd) (x : Int32) (k9 : Nat) (n : Nat) (hn : d 176 0 = nI n) (h8 : n ≤ 8) (hk9 : k9 < n) (r : Nat → Nat) (hr9 : ∀ j, j < n → r j < 100000) (hv : ∀ j, j < n → d 176 (54 + j) = nI (r j)) (hk1 : nI (g_ah r k9 n) = x) (hk0 : ∀ j, j < k9 → ¬ nI (g_ah r j n) = x) : x_M G l yX12_ranked wsX12_ranked 4 0 0 [.ref (x_b G + 175), .int x, .int 1] d (some (.int (nI k9))) (g_th d 0) := by
  have iX12 : ∀ w ∈ u_ws RX12 TX12 16, w ∈ wsX12_ranked := by decide +kernel
  refine x_start (cc := cX12_ranked) (maxL := 7) (ret := (some .int)) (own := RX12) (by decide) rfl rfl (Nat.le_of_ble_eq_true rfl) (lst := [(0, .ref (x_b G + 175)), (1, .int x), (2, .int 1)]) rfl ?_
  intro p e s m args below meth c C hr hlocks
  refine a_iconst C dX12_ranked_0 (v := 0) (by decide) ?_
  refine a_istore_n C dX12_ranked_1 (by decide) (lst2 := [(3, .int 0), (0, .ref (x_b G + 175)), (1, .int x), (2, .int 1)]) rfl ?_
  have L2 : ∀ (j i : Nat), i ≤ k9 → k9 < i + j → Ab G p l e (x_rm 4 0 0) s m args below meth c 7 0 0 (MQ below (x_Q G (some (.int (nI k9))) (g_th d 0)) args s 0 0 (x_A G)) 2 [(3, .int (nI i)), (0, .ref (x_b G + 175)), (1, .int x), (2, .int 1)] [] d := by
    intro j
    induction j with
    | zero => intro i h1 h2; exact absurd h2 (by omega)
    | succ j ih =>
      intro i hi hj 
      have hlt : i < n := by omega
      refine a_iload_n C dX12_ranked_2 0 rfl ?_
      refine a_aload_n C dX12_ranked_3 1 rfl ?_
      refine a_getR C (k := 175) iX12 x_k175 rfl (j := 0) rfl (by decide) (by decide +kernel) dX12_ranked_4 ?_
      refine a_iconst C dX12_ranked_7 (v := 0) (by decide) ?_
      refine a_ialdN C (k := 176) x_k176 (i := 0) rfl (by decide) (by first | decide | omega) dX12_ranked_8 ?_
      refine a_top (y := (nI n)) hn ?_
      refine a_icmp_ge C dX12_ranked_9 (tgt := 95) (by decide) (fun h => False.elim (absurd ((nI_leI (by omega) (by omega)).mp h) (by omega))) (fun h9 => ?_)
      refine a_iconst C dX12_ranked_12 (v := 0) (by decide) ?_
      refine a_istore C dX12_ranked_13 (by decide) (lst2 := [(4, .int 0), (3, .int (nI i)), (0, .ref (x_b G + 175)), (1, .int x), (2, .int 1)]) rfl ?_
      refine a_iconst C dX12_ranked_15 (v := 0) (by decide) ?_
      refine a_istore C dX12_ranked_16 (by decide) (lst2 := [(5, .int 0), (4, .int 0), (3, .int (nI i)), (0, .ref (x_b G + 175)), (1, .int x), (2, .int 1)]) rfl ?_
      have L18 : ∀ (j k : Nat), k ≤ n → n < k + j → Ab G p l e (x_rm 4 0 0) s m args below meth c 7 0 0 (MQ below (x_Q G (some (.int (nI k9))) (g_th d 0)) args s 0 0 (x_A G)) 18 [(5, .int (nI k)), (4, .int (nI (g_ah r i k))), (3, .int (nI i)), (0, .ref (x_b G + 175)), (1, .int x), (2, .int 1)] [] d := by
        intro j
        induction j with
        | zero => intro k h1 h2; exact absurd h2 (by omega)
        | succ j ihk =>
          intro k hk hj 
          refine a_iload C dX12_ranked_18 0 rfl ?_
          refine a_aload_n C dX12_ranked_20 3 rfl ?_
          refine a_getR C (k := 175) iX12 x_k175 rfl (j := 0) rfl (by decide) (by decide +kernel) dX12_ranked_21 ?_
          refine a_iconst C dX12_ranked_24 (v := 0) (by decide) ?_
          refine a_ialdN C (k := 176) x_k176 (i := 0) rfl (by decide) (by first | decide | omega) dX12_ranked_25 ?_
          refine a_top (y := (nI n)) hn ?_
          refine a_icmp_ge C dX12_ranked_26 (tgt := 77) (by decide) (fun h26 => ?_) (fun h26 => ?_)
          · skip
            have e := x_ge h26 hk (by omega)
            have e9 := e.symm
            subst e9
            clear e
            refine a_iload C dX12_ranked_77 1 rfl ?_
            refine a_iload_n C dX12_ranked_79 4 rfl ?_
            refine a_icmp_ne C dX12_ranked_80 (tgt := 89) (by decide) (fun h80 => ?_) (fun h80 => ?_)
            · skip
              have hlt9 : i < k9 := by
                rcases Nat.lt_or_ge i k9 with z | z
                · exact z
                · have e : i = k9 := by omega
                  subst e
                  exact absurd hk1 h80
              refine a_iinc C dX12_ranked_89 2 rfl (v := (nI (i + 1))) (x_inc i) (by decide) (lst2 := [(3, .int (nI (i + 1))), (5, .int (nI n)), (4, .int (nI (g_ah r i n))), (0, .ref (x_b G + 175)), (1, .int x), (2, .int 1)]) rfl ?_
              refine a_goto C dX12_ranked_92 (tgt := 2) (by decide) ?_
              refine a_sub (lst2 := [(3, .int (nI (i + 1))), (0, .ref (x_b G + 175)), (1, .int x), (2, .int 1)]) [0, 3, 4, 5] rfl ?_
              exact ih (i + 1) (by omega) (by omega) 
            · skip
              have e : i = k9 := by
                rcases Nat.lt_or_ge i k9 with z | z
                · exact absurd (Decidable.not_not.mp (fun q => q h80)) (hk0 i z)
                · omega
              subst e
              refine a_aload_n C dX12_ranked_83 3 rfl ?_
              refine a_iload_n C dX12_ranked_84 2 rfl ?_
              refine a_callV C (k := 175) (As := [.int (nI i)]) (rest := []) (c_M_done l G d (nI i)) (cwV 1 C.1.2.2.2.2 gX12_ranked_X12_done rfl rfl rfl (by decide +kernel) ⟨Nat.le_of_ble_eq_true rfl, Nat.le_of_ble_eq_true rfl⟩) x_k175 (q := (RX12, TX12, 16)) rfl rfl rfl rfl (Nat.le_of_ble_eq_true rfl) dX12_ranked_85 ⟨Nat.le_of_ble_eq_true rfl, Nat.le_of_ble_eq_true rfl⟩ ?_
              exact a_iret C hlocks hr dX12_ranked_88 rfl rfl
          · skip
            have hltk := x_nge h26 hk
            have hrk := hr9 k hltk
            have hri := hr9 i hlt
            refine a_aload_n C dX12_ranked_29 3 rfl ?_
            refine a_iload C dX12_ranked_30 0 rfl ?_
            refine a_iload_n C dX12_ranked_32 5 rfl ?_
            refine a_callV C (k := 175) (As := [.int (nI k), .int 1]) (rest := []) (c_M_measure_1 l G d k (by omega)) (cwV 2 C.1.2.2.2.2 gX12_ranked_X12_measure rfl rfl rfl (by decide +kernel) ⟨Nat.le_of_ble_eq_true rfl, Nat.le_of_ble_eq_true rfl⟩) x_k175 (q := (RX12, TX12, 16)) rfl rfl rfl rfl (Nat.le_of_ble_eq_true rfl) dX12_ranked_33 ⟨Nat.le_of_ble_eq_true rfl, Nat.le_of_ble_eq_true rfl⟩ ?_
            refine a_top (y := nI (r k)) (hv k hltk) ?_
            refine a_aload_n C dX12_ranked_36 3 rfl ?_
            refine a_iload_n C dX12_ranked_37 2 rfl ?_
            refine a_iload_n C dX12_ranked_38 5 rfl ?_
            refine a_callV C (k := 175) (As := [.int (nI i), .int 1]) (rest := [.int (nI (r k))]) (c_M_measure_1 l G d i (by omega)) (cwV 2 C.1.2.2.2.2 gX12_ranked_X12_measure rfl rfl rfl (by decide +kernel) ⟨Nat.le_of_ble_eq_true rfl, Nat.le_of_ble_eq_true rfl⟩) x_k175 (q := (RX12, TX12, 16)) rfl rfl rfl rfl (Nat.le_of_ble_eq_true rfl) dX12_ranked_39 ⟨Nat.le_of_ble_eq_true rfl, Nat.le_of_ble_eq_true rfl⟩ ?_
            refine a_top (y := nI (r i)) (hv i hlt) ?_
            refine a_isub C dX12_ranked_42 ?_
            refine a_istore C dX12_ranked_43 (by decide) (lst2 := [(6, .int ((nI (r k)) - (nI (r i)))), (5, .int (nI k)), (4, .int (nI (g_ah r i k))), (3, .int (nI i)), (0, .ref (x_b G + 175)), (1, .int x), (2, .int 1)]) rfl ?_
            refine a_iload C dX12_ranked_45 2 rfl ?_
            refine a_iload C dX12_ranked_47 0 rfl ?_
            refine a_if_gt C dX12_ranked_49 (tgt := 63) (by decide) (fun h49 => ?_) (fun h49 => ?_)
            · skip
              refine a_iconst C dX12_ranked_63 (v := 1) (by decide) ?_
              refine a_goto C dX12_ranked_64 (tgt := 68) (by decide) ?_
              refine a_iadd C dX12_ranked_68 ?_
              refine a_top (y := (nI (g_ah r i (k + 1)))) (by rw [g_ah, if_pos (Or.inl ((x_gt_sub (by omega) (by omega)).mp h49))]; exact nI_1 _) ?_
              refine a_istore C dX12_ranked_69 (by decide) (lst2 := [(4, .int (nI (g_ah r i (k + 1)))), (6, .int ((nI (r k)) - (nI (r i)))), (5, .int (nI k)), (3, .int (nI i)), (0, .ref (x_b G + 175)), (1, .int x), (2, .int 1)]) rfl ?_
              refine a_iinc C dX12_ranked_71 2 rfl (v := (nI (k + 1))) (x_inc k) (by decide) (lst2 := [(5, .int (nI (k + 1))), (4, .int (nI (g_ah r i (k + 1)))), (6, .int ((nI (r k)) - (nI (r i)))), (3, .int (nI i)), (0, .ref (x_b G + 175)), (1, .int x), (2, .int 1)]) rfl ?_
              refine a_goto C dX12_ranked_74 (tgt := 18) (by decide) ?_
              refine a_sub (lst2 := [(5, .int (nI (k + 1))), (4, .int (nI (g_ah r i (k + 1)))), (3, .int (nI i)), (0, .ref (x_b G + 175)), (1, .int x), (2, .int 1)]) [0, 1, 3, 4, 5, 6] rfl ?_
              exact ihk (k + 1) (by omega) (by omega) 
            · skip
              refine a_iload C dX12_ranked_52 0 rfl ?_
              refine a_if_ne C dX12_ranked_54 (tgt := 67) (by decide) (fun h54 => ?_) (fun h54 => ?_)
              · skip
                refine a_iconst C dX12_ranked_67 (v := 0) (by decide) ?_
                refine a_iadd C dX12_ranked_68 ?_
                refine a_top (y := (nI (g_ah r i (k + 1)))) (by rw [g_ah, if_neg (fun z => z.elim (fun z => h49 ((x_gt_sub (by omega) (by omega)).mpr z)) (fun z => h54 ((x_eq_sub (by omega) (by omega)).mpr z.1)))]; exact nI_add _ 0) ?_
                refine a_istore C dX12_ranked_69 (by decide) (lst2 := [(4, .int (nI (g_ah r i (k + 1)))), (6, .int ((nI (r k)) - (nI (r i)))), (5, .int (nI k)), (3, .int (nI i)), (0, .ref (x_b G + 175)), (1, .int x), (2, .int 1)]) rfl ?_
                refine a_iinc C dX12_ranked_71 2 rfl (v := (nI (k + 1))) (x_inc k) (by decide) (lst2 := [(5, .int (nI (k + 1))), (4, .int (nI (g_ah r i (k + 1)))), (6, .int ((nI (r k)) - (nI (r i)))), (3, .int (nI i)), (0, .ref (x_b G + 175)), (1, .int x), (2, .int 1)]) rfl ?_
                refine a_goto C dX12_ranked_74 (tgt := 18) (by decide) ?_
                refine a_sub (lst2 := [(5, .int (nI (k + 1))), (4, .int (nI (g_ah r i (k + 1)))), (3, .int (nI i)), (0, .ref (x_b G + 175)), (1, .int x), (2, .int 1)]) [0, 1, 3, 4, 5, 6] rfl ?_
                exact ihk (k + 1) (by omega) (by omega) 
              · skip
                refine a_iload C dX12_ranked_57 1 rfl ?_
                refine a_iload_n C dX12_ranked_59 3 rfl ?_
                refine a_icmp_ge C dX12_ranked_60 (tgt := 67) (by decide) (fun h60 => ?_) (fun h60 => ?_)
                · skip
                  refine a_iconst C dX12_ranked_67 (v := 0) (by decide) ?_
                  refine a_iadd C dX12_ranked_68 ?_
                  refine a_top (y := (nI (g_ah r i (k + 1)))) (by rw [g_ah, if_neg (fun z => z.elim (fun z => h49 ((x_gt_sub (by omega) (by omega)).mpr z)) (fun z => absurd ((nI_leI (by omega) (by omega)).mp h60) (by omega)))]; exact nI_add _ 0) ?_
                  refine a_istore C dX12_ranked_69 (by decide) (lst2 := [(4, .int (nI (g_ah r i (k + 1)))), (6, .int ((nI (r k)) - (nI (r i)))), (5, .int (nI k)), (3, .int (nI i)), (0, .ref (x_b G + 175)), (1, .int x), (2, .int 1)]) rfl ?_
                  refine a_iinc C dX12_ranked_71 2 rfl (v := (nI (k + 1))) (x_inc k) (by decide) (lst2 := [(5, .int (nI (k + 1))), (4, .int (nI (g_ah r i (k + 1)))), (6, .int ((nI (r k)) - (nI (r i)))), (3, .int (nI i)), (0, .ref (x_b G + 175)), (1, .int x), (2, .int 1)]) rfl ?_
                  refine a_goto C dX12_ranked_74 (tgt := 18) (by decide) ?_
                  refine a_sub (lst2 := [(5, .int (nI (k + 1))), (4, .int (nI (g_ah r i (k + 1)))), (3, .int (nI i)), (0, .ref (x_b G + 175)), (1, .int x), (2, .int 1)]) [0, 1, 3, 4, 5, 6] rfl ?_
                  exact ihk (k + 1) (by omega) (by omega) 
                · skip
                  refine a_iconst C dX12_ranked_63 (v := 1) (by decide) ?_
                  refine a_goto C dX12_ranked_64 (tgt := 68) (by decide) ?_
                  refine a_iadd C dX12_ranked_68 ?_
                  refine a_top (y := (nI (g_ah r i (k + 1)))) (by rw [g_ah, if_pos (Or.inr ⟨(x_eq_sub (by omega) (by omega)).mp h54, by rcases Nat.lt_or_ge k i with z | z; exact z; exact absurd ((nI_leI (by omega) (by omega)).mpr z) h60⟩)]; exact nI_1 _) ?_
                  refine a_istore C dX12_ranked_69 (by decide) (lst2 := [(4, .int (nI (g_ah r i (k + 1)))), (6, .int ((nI (r k)) - (nI (r i)))), (5, .int (nI k)), (3, .int (nI i)), (0, .ref (x_b G + 175)), (1, .int x), (2, .int 1)]) rfl ?_
                  refine a_iinc C dX12_ranked_71 2 rfl (v := (nI (k + 1))) (x_inc k) (by decide) (lst2 := [(5, .int (nI (k + 1))), (4, .int (nI (g_ah r i (k + 1)))), (6, .int ((nI (r k)) - (nI (r i)))), (3, .int (nI i)), (0, .ref (x_b G + 175)), (1, .int x), (2, .int 1)]) rfl ?_
                  refine a_goto C dX12_ranked_74 (tgt := 18) (by decide) ?_
                  refine a_sub (lst2 := [(5, .int (nI (k + 1))), (4, .int (nI (g_ah r i (k + 1)))), (3, .int (nI i)), (0, .ref (x_b G + 175)), (1, .int x), (2, .int 1)]) [0, 1, 3, 4, 5, 6] rfl ?_
                  exact ihk (k + 1) (by omega) (by omega) 
      refine a_sub (lst2 := [(5, .int 0), (4, .int 0), (3, .int (nI i)), (0, .ref (x_b G + 175)), (1, .int x), (2, .int 1)]) [0, 1, 2, 3, 4, 5] rfl ?_
      exact L18 (n + 1) 0 (by omega) (by omega) 
  refine a_sub (lst2 := [(3, .int 0), (0, .ref (x_b G + 175)), (1, .int x), (2, .int 1)]) [0, 1, 2, 3] rfl ?_
  exact L2 (k9 + 1) 0 (by omega) (by omega) 

set_option maxHeartbeats 1000000 in
set_option maxRecDepth 100000 in
theorem c_M_ranked_1f (l : Launch) (G : xG) (d : xd) (x : Int32) (n : Nat) (hn : d 176 0 = nI n) (h8 : n ≤ 8) (r : Nat → Nat) (hr9 : ∀ j, j < n → r j < 100000) (hv : ∀ j, j < n → d 176 (54 + j) = nI (r j)) (hk0 : ∀ j, j < n → ¬ nI (g_ah r j n) = x) : x_M G l yX12_ranked wsX12_ranked 4 0 0 [.ref (x_b G + 175), .int x, .int 1] d (some (.int 0)) (g_th d 1) := by
  have iX12 : ∀ w ∈ u_ws RX12 TX12 16, w ∈ wsX12_ranked := by decide +kernel
  refine x_start (cc := cX12_ranked) (maxL := 7) (ret := (some .int)) (own := RX12) (by decide) rfl rfl (Nat.le_of_ble_eq_true rfl) (lst := [(0, .ref (x_b G + 175)), (1, .int x), (2, .int 1)]) rfl ?_
  intro p e s m args below meth c C hr hlocks
  refine a_iconst C dX12_ranked_0 (v := 0) (by decide) ?_
  refine a_istore_n C dX12_ranked_1 (by decide) (lst2 := [(3, .int 0), (0, .ref (x_b G + 175)), (1, .int x), (2, .int 1)]) rfl ?_
  have L2 : ∀ (j i : Nat), i ≤ n → n < i + j → Ab G p l e (x_rm 4 0 0) s m args below meth c 7 0 0 (MQ below (x_Q G (some (.int 0)) (g_th d 1)) args s 0 0 (x_A G)) 2 [(3, .int (nI i)), (0, .ref (x_b G + 175)), (1, .int x), (2, .int 1)] [] d := by
    intro j
    induction j with
    | zero => intro i h1 h2; exact absurd h2 (by omega)
    | succ j ih =>
      intro i hi hj 
      refine a_iload_n C dX12_ranked_2 0 rfl ?_
      refine a_aload_n C dX12_ranked_3 1 rfl ?_
      refine a_getR C (k := 175) iX12 x_k175 rfl (j := 0) rfl (by decide) (by decide +kernel) dX12_ranked_4 ?_
      refine a_iconst C dX12_ranked_7 (v := 0) (by decide) ?_
      refine a_ialdN C (k := 176) x_k176 (i := 0) rfl (by decide) (by first | decide | omega) dX12_ranked_8 ?_
      refine a_top (y := (nI n)) hn ?_
      refine a_icmp_ge C dX12_ranked_9 (tgt := 95) (by decide) (fun h9 => ?_) (fun h9 => ?_)
      · skip
        have e := x_ge h9 hi (by omega)
        have e9 := e.symm
        subst e9
        clear e
        refine a_aload_n C dX12_ranked_95 1 rfl ?_
        refine a_iconst C dX12_ranked_96 (v := 1) (by decide) ?_
        refine a_callV C (k := 175) (As := [.int 1]) (rest := []) (c_M_fails l G d 1) (cwV 1 C.1.2.2.2.2 gX12_ranked_X12_fails rfl rfl rfl (by decide +kernel) ⟨Nat.le_of_ble_eq_true rfl, Nat.le_of_ble_eq_true rfl⟩) x_k175 (q := (RX12, TX12, 16)) rfl rfl rfl rfl (Nat.le_of_ble_eq_true rfl) dX12_ranked_97 ⟨Nat.le_of_ble_eq_true rfl, Nat.le_of_ble_eq_true rfl⟩ ?_
        exact a_iret C hlocks hr dX12_ranked_100 rfl rfl
      · skip
        have hlt := x_nge h9 hi
        refine a_iconst C dX12_ranked_12 (v := 0) (by decide) ?_
        refine a_istore C dX12_ranked_13 (by decide) (lst2 := [(4, .int 0), (3, .int (nI i)), (0, .ref (x_b G + 175)), (1, .int x), (2, .int 1)]) rfl ?_
        refine a_iconst C dX12_ranked_15 (v := 0) (by decide) ?_
        refine a_istore C dX12_ranked_16 (by decide) (lst2 := [(5, .int 0), (4, .int 0), (3, .int (nI i)), (0, .ref (x_b G + 175)), (1, .int x), (2, .int 1)]) rfl ?_
        have L18 : ∀ (j k : Nat), k ≤ n → n < k + j → Ab G p l e (x_rm 4 0 0) s m args below meth c 7 0 0 (MQ below (x_Q G (some (.int 0)) (g_th d 1)) args s 0 0 (x_A G)) 18 [(5, .int (nI k)), (4, .int (nI (g_ah r i k))), (3, .int (nI i)), (0, .ref (x_b G + 175)), (1, .int x), (2, .int 1)] [] d := by
          intro j
          induction j with
          | zero => intro k h1 h2; exact absurd h2 (by omega)
          | succ j ihk =>
            intro k hk hj 
            refine a_iload C dX12_ranked_18 0 rfl ?_
            refine a_aload_n C dX12_ranked_20 3 rfl ?_
            refine a_getR C (k := 175) iX12 x_k175 rfl (j := 0) rfl (by decide) (by decide +kernel) dX12_ranked_21 ?_
            refine a_iconst C dX12_ranked_24 (v := 0) (by decide) ?_
            refine a_ialdN C (k := 176) x_k176 (i := 0) rfl (by decide) (by first | decide | omega) dX12_ranked_25 ?_
            refine a_top (y := (nI n)) hn ?_
            refine a_icmp_ge C dX12_ranked_26 (tgt := 77) (by decide) (fun h26 => ?_) (fun h26 => ?_)
            · skip
              have e := x_ge h26 hk (by omega)
              have e9 := e.symm
              subst e9
              clear e
              refine a_iload C dX12_ranked_77 1 rfl ?_
              refine a_iload_n C dX12_ranked_79 4 rfl ?_
              refine a_icmp_ne C dX12_ranked_80 (tgt := 89) (by decide) (fun h80 => ?_) (fun h80 => ?_)
              · skip
                refine a_iinc C dX12_ranked_89 2 rfl (v := (nI (i + 1))) (x_inc i) (by decide) (lst2 := [(3, .int (nI (i + 1))), (5, .int (nI n)), (4, .int (nI (g_ah r i n))), (0, .ref (x_b G + 175)), (1, .int x), (2, .int 1)]) rfl ?_
                refine a_goto C dX12_ranked_92 (tgt := 2) (by decide) ?_
                refine a_sub (lst2 := [(3, .int (nI (i + 1))), (0, .ref (x_b G + 175)), (1, .int x), (2, .int 1)]) [0, 3, 4, 5] rfl ?_
                exact ih (i + 1) (by omega) (by omega) 
              · skip
                exact absurd (Decidable.not_not.mp (fun q => q h80)) (hk0 i hlt)
            · skip
              have hltk := x_nge h26 hk
              have hrk := hr9 k hltk
              have hri := hr9 i hlt
              refine a_aload_n C dX12_ranked_29 3 rfl ?_
              refine a_iload C dX12_ranked_30 0 rfl ?_
              refine a_iload_n C dX12_ranked_32 5 rfl ?_
              refine a_callV C (k := 175) (As := [.int (nI k), .int 1]) (rest := []) (c_M_measure_1 l G d k (by omega)) (cwV 2 C.1.2.2.2.2 gX12_ranked_X12_measure rfl rfl rfl (by decide +kernel) ⟨Nat.le_of_ble_eq_true rfl, Nat.le_of_ble_eq_true rfl⟩) x_k175 (q := (RX12, TX12, 16)) rfl rfl rfl rfl (Nat.le_of_ble_eq_true rfl) dX12_ranked_33 ⟨Nat.le_of_ble_eq_true rfl, Nat.le_of_ble_eq_true rfl⟩ ?_
              refine a_top (y := nI (r k)) (hv k hltk) ?_
              refine a_aload_n C dX12_ranked_36 3 rfl ?_
              refine a_iload_n C dX12_ranked_37 2 rfl ?_
              refine a_iload_n C dX12_ranked_38 5 rfl ?_
              refine a_callV C (k := 175) (As := [.int (nI i), .int 1]) (rest := [.int (nI (r k))]) (c_M_measure_1 l G d i (by omega)) (cwV 2 C.1.2.2.2.2 gX12_ranked_X12_measure rfl rfl rfl (by decide +kernel) ⟨Nat.le_of_ble_eq_true rfl, Nat.le_of_ble_eq_true rfl⟩) x_k175 (q := (RX12, TX12, 16)) rfl rfl rfl rfl (Nat.le_of_ble_eq_true rfl) dX12_ranked_39 ⟨Nat.le_of_ble_eq_true rfl, Nat.le_of_ble_eq_true rfl⟩ ?_
              refine a_top (y := nI (r i)) (hv i hlt) ?_
              refine a_isub C dX12_ranked_42 ?_
              refine a_istore C dX12_ranked_43 (by decide) (lst2 := [(6, .int ((nI (r k)) - (nI (r i)))), (5, .int (nI k)), (4, .int (nI (g_ah r i k))), (3, .int (nI i)), (0, .ref (x_b G + 175)), (1, .int x), (2, .int 1)]) rfl ?_
              refine a_iload C dX12_ranked_45 2 rfl ?_
              refine a_iload C dX12_ranked_47 0 rfl ?_
              refine a_if_gt C dX12_ranked_49 (tgt := 63) (by decide) (fun h49 => ?_) (fun h49 => ?_)
              · skip
                refine a_iconst C dX12_ranked_63 (v := 1) (by decide) ?_
                refine a_goto C dX12_ranked_64 (tgt := 68) (by decide) ?_
                refine a_iadd C dX12_ranked_68 ?_
                refine a_top (y := (nI (g_ah r i (k + 1)))) (by rw [g_ah, if_pos (Or.inl ((x_gt_sub (by omega) (by omega)).mp h49))]; exact nI_1 _) ?_
                refine a_istore C dX12_ranked_69 (by decide) (lst2 := [(4, .int (nI (g_ah r i (k + 1)))), (6, .int ((nI (r k)) - (nI (r i)))), (5, .int (nI k)), (3, .int (nI i)), (0, .ref (x_b G + 175)), (1, .int x), (2, .int 1)]) rfl ?_
                refine a_iinc C dX12_ranked_71 2 rfl (v := (nI (k + 1))) (x_inc k) (by decide) (lst2 := [(5, .int (nI (k + 1))), (4, .int (nI (g_ah r i (k + 1)))), (6, .int ((nI (r k)) - (nI (r i)))), (3, .int (nI i)), (0, .ref (x_b G + 175)), (1, .int x), (2, .int 1)]) rfl ?_
                refine a_goto C dX12_ranked_74 (tgt := 18) (by decide) ?_
                refine a_sub (lst2 := [(5, .int (nI (k + 1))), (4, .int (nI (g_ah r i (k + 1)))), (3, .int (nI i)), (0, .ref (x_b G + 175)), (1, .int x), (2, .int 1)]) [0, 1, 3, 4, 5, 6] rfl ?_
                exact ihk (k + 1) (by omega) (by omega) 
              · skip
                refine a_iload C dX12_ranked_52 0 rfl ?_
                refine a_if_ne C dX12_ranked_54 (tgt := 67) (by decide) (fun h54 => ?_) (fun h54 => ?_)
                · skip
                  refine a_iconst C dX12_ranked_67 (v := 0) (by decide) ?_
                  refine a_iadd C dX12_ranked_68 ?_
                  refine a_top (y := (nI (g_ah r i (k + 1)))) (by rw [g_ah, if_neg (fun z => z.elim (fun z => h49 ((x_gt_sub (by omega) (by omega)).mpr z)) (fun z => h54 ((x_eq_sub (by omega) (by omega)).mpr z.1)))]; exact nI_add _ 0) ?_
                  refine a_istore C dX12_ranked_69 (by decide) (lst2 := [(4, .int (nI (g_ah r i (k + 1)))), (6, .int ((nI (r k)) - (nI (r i)))), (5, .int (nI k)), (3, .int (nI i)), (0, .ref (x_b G + 175)), (1, .int x), (2, .int 1)]) rfl ?_
                  refine a_iinc C dX12_ranked_71 2 rfl (v := (nI (k + 1))) (x_inc k) (by decide) (lst2 := [(5, .int (nI (k + 1))), (4, .int (nI (g_ah r i (k + 1)))), (6, .int ((nI (r k)) - (nI (r i)))), (3, .int (nI i)), (0, .ref (x_b G + 175)), (1, .int x), (2, .int 1)]) rfl ?_
                  refine a_goto C dX12_ranked_74 (tgt := 18) (by decide) ?_
                  refine a_sub (lst2 := [(5, .int (nI (k + 1))), (4, .int (nI (g_ah r i (k + 1)))), (3, .int (nI i)), (0, .ref (x_b G + 175)), (1, .int x), (2, .int 1)]) [0, 1, 3, 4, 5, 6] rfl ?_
                  exact ihk (k + 1) (by omega) (by omega) 
                · skip
                  refine a_iload C dX12_ranked_57 1 rfl ?_
                  refine a_iload_n C dX12_ranked_59 3 rfl ?_
                  refine a_icmp_ge C dX12_ranked_60 (tgt := 67) (by decide) (fun h60 => ?_) (fun h60 => ?_)
                  · skip
                    refine a_iconst C dX12_ranked_67 (v := 0) (by decide) ?_
                    refine a_iadd C dX12_ranked_68 ?_
                    refine a_top (y := (nI (g_ah r i (k + 1)))) (by rw [g_ah, if_neg (fun z => z.elim (fun z => h49 ((x_gt_sub (by omega) (by omega)).mpr z)) (fun z => absurd ((nI_leI (by omega) (by omega)).mp h60) (by omega)))]; exact nI_add _ 0) ?_
                    refine a_istore C dX12_ranked_69 (by decide) (lst2 := [(4, .int (nI (g_ah r i (k + 1)))), (6, .int ((nI (r k)) - (nI (r i)))), (5, .int (nI k)), (3, .int (nI i)), (0, .ref (x_b G + 175)), (1, .int x), (2, .int 1)]) rfl ?_
                    refine a_iinc C dX12_ranked_71 2 rfl (v := (nI (k + 1))) (x_inc k) (by decide) (lst2 := [(5, .int (nI (k + 1))), (4, .int (nI (g_ah r i (k + 1)))), (6, .int ((nI (r k)) - (nI (r i)))), (3, .int (nI i)), (0, .ref (x_b G + 175)), (1, .int x), (2, .int 1)]) rfl ?_
                    refine a_goto C dX12_ranked_74 (tgt := 18) (by decide) ?_
                    refine a_sub (lst2 := [(5, .int (nI (k + 1))), (4, .int (nI (g_ah r i (k + 1)))), (3, .int (nI i)), (0, .ref (x_b G + 175)), (1, .int x), (2, .int 1)]) [0, 1, 3, 4, 5, 6] rfl ?_
                    exact ihk (k + 1) (by omega) (by omega) 
                  · skip
                    refine a_iconst C dX12_ranked_63 (v := 1) (by decide) ?_
                    refine a_goto C dX12_ranked_64 (tgt := 68) (by decide) ?_
                    refine a_iadd C dX12_ranked_68 ?_
                    refine a_top (y := (nI (g_ah r i (k + 1)))) (by rw [g_ah, if_pos (Or.inr ⟨(x_eq_sub (by omega) (by omega)).mp h54, by rcases Nat.lt_or_ge k i with z | z; exact z; exact absurd ((nI_leI (by omega) (by omega)).mpr z) h60⟩)]; exact nI_1 _) ?_
                    refine a_istore C dX12_ranked_69 (by decide) (lst2 := [(4, .int (nI (g_ah r i (k + 1)))), (6, .int ((nI (r k)) - (nI (r i)))), (5, .int (nI k)), (3, .int (nI i)), (0, .ref (x_b G + 175)), (1, .int x), (2, .int 1)]) rfl ?_
                    refine a_iinc C dX12_ranked_71 2 rfl (v := (nI (k + 1))) (x_inc k) (by decide) (lst2 := [(5, .int (nI (k + 1))), (4, .int (nI (g_ah r i (k + 1)))), (6, .int ((nI (r k)) - (nI (r i)))), (3, .int (nI i)), (0, .ref (x_b G + 175)), (1, .int x), (2, .int 1)]) rfl ?_
                    refine a_goto C dX12_ranked_74 (tgt := 18) (by decide) ?_
                    refine a_sub (lst2 := [(5, .int (nI (k + 1))), (4, .int (nI (g_ah r i (k + 1)))), (3, .int (nI i)), (0, .ref (x_b G + 175)), (1, .int x), (2, .int 1)]) [0, 1, 3, 4, 5, 6] rfl ?_
                    exact ihk (k + 1) (by omega) (by omega) 
        refine a_sub (lst2 := [(5, .int 0), (4, .int 0), (3, .int (nI i)), (0, .ref (x_b G + 175)), (1, .int x), (2, .int 1)]) [0, 1, 2, 3, 4, 5] rfl ?_
        exact L18 (n + 1) 0 (by omega) (by omega) 
  refine a_sub (lst2 := [(3, .int 0), (0, .ref (x_b G + 175)), (1, .int x), (2, .int 1)]) [0, 1, 2, 3] rfl ?_
  exact L2 (n + 1) 0 (by omega) (by omega) 

set_option maxHeartbeats 1000000 in
set_option maxRecDepth 100000 in
theorem c_M_richestLamp (l : Launch) (G : xG) (d : xd) (x : Int32) (k9 : Nat) (n : Nat) (hn : d 176 0 = nI n) (h8 : n ≤ 8) (hk9 : k9 < n) (r : Nat → Nat) (hr9 : ∀ j, j < n → r j < 100000) (hv : ∀ j, j < n → d 176 (54 + j) = nI (r j)) (hk1 : nI (g_ah r k9 n) = x) (hk0 : ∀ j, j < k9 → ¬ nI (g_ah r j n) = x) : x_M G l yX12_richestLamp wsX12_richestLamp 5 0 0 [.ref (x_b G + 175), .int x] d (some (.int (nI k9))) (g_th d 0) := by
  refine x_start (cc := cX12_richestLamp) (maxL := 2) (ret := (some .int)) (own := RX12) (by decide) rfl rfl (Nat.le_of_ble_eq_true rfl) (lst := [(0, .ref (x_b G + 175)), (1, .int x)]) rfl ?_
  intro p e s m args below meth c C hr hlocks
  refine a_aload_n C dX12_richestLamp_0 0 rfl ?_
  refine a_iload_n C dX12_richestLamp_1 1 rfl ?_
  refine a_iconst C dX12_richestLamp_2 (v := 1) (by decide) ?_
  refine a_callV C (k := 175) (As := [.int x, .int 1]) (rest := []) (c_M_ranked_1 l G d x k9 n hn h8 hk9 r hr9 hv hk1 hk0) (cwV 2 C.1.2.2.2.2 gX12_richestLamp_X12_ranked rfl rfl rfl (by decide +kernel) ⟨Nat.le_of_ble_eq_true rfl, Nat.le_of_ble_eq_true rfl⟩) x_k175 (q := (RX12, TX12, 16)) rfl rfl rfl rfl (Nat.le_of_ble_eq_true rfl) dX12_richestLamp_3 ⟨Nat.le_of_ble_eq_true rfl, Nat.le_of_ble_eq_true rfl⟩ ?_
  exact a_iret C hlocks hr dX12_richestLamp_6 rfl rfl

set_option maxHeartbeats 1000000 in
set_option maxRecDepth 100000 in
theorem c_M_richestLamp_1 (l : Launch) (G : xG) (d : xd) (x : Int32) (n : Nat) (hn : d 176 0 = nI n) (h8 : n ≤ 8) (r : Nat → Nat) (hr9 : ∀ j, j < n → r j < 100000) (hv : ∀ j, j < n → d 176 (54 + j) = nI (r j)) (hk0 : ∀ j, j < n → ¬ nI (g_ah r j n) = x) : x_M G l yX12_richestLamp wsX12_richestLamp 5 0 0 [.ref (x_b G + 175), .int x] d (some (.int 0)) (g_th d 1) := by
  refine x_start (cc := cX12_richestLamp) (maxL := 2) (ret := (some .int)) (own := RX12) (by decide) rfl rfl (Nat.le_of_ble_eq_true rfl) (lst := [(0, .ref (x_b G + 175)), (1, .int x)]) rfl ?_
  intro p e s m args below meth c C hr hlocks
  refine a_aload_n C dX12_richestLamp_0 0 rfl ?_
  refine a_iload_n C dX12_richestLamp_1 1 rfl ?_
  refine a_iconst C dX12_richestLamp_2 (v := 1) (by decide) ?_
  refine a_callV C (k := 175) (As := [.int x, .int 1]) (rest := []) (c_M_ranked_1f l G d x n hn h8 r hr9 hv hk0) (cwV 2 C.1.2.2.2.2 gX12_richestLamp_X12_ranked rfl rfl rfl (by decide +kernel) ⟨Nat.le_of_ble_eq_true rfl, Nat.le_of_ble_eq_true rfl⟩) x_k175 (q := (RX12, TX12, 16)) rfl rfl rfl rfl (Nat.le_of_ble_eq_true rfl) dX12_richestLamp_3 ⟨Nat.le_of_ble_eq_true rfl, Nat.le_of_ble_eq_true rfl⟩ ?_
  exact a_iret C hlocks hr dX12_richestLamp_6 rfl rfl

set_option maxHeartbeats 1000000 in
set_option maxRecDepth 100000 in
theorem c_M_ranked_0 (l : Launch) (G : xG) (d : xd) (x : Int32) (k9 : Nat) (n : Nat) (hn : d 176 0 = nI n) (h8 : n ≤ 8) (hk9 : k9 < n) (r : Nat → Nat) (hr9 : ∀ j, j < n → r j < 100000) (hv : ∀ j, j < n → g_las (d 176) j = nI (r j)) (hb : ∀ j, j < n → ¬ d 176 (22 + j) = 0) (hk1 : nI (g_ah r k9 n) = x) (hk0 : ∀ j, j < k9 → ¬ nI (g_ah r j n) = x) : x_M G l yX12_ranked wsX12_ranked 4 0 0 [.ref (x_b G + 175), .int x, .int 0] d (some (.int (nI k9))) (g_th d 0) := by
  have iX12 : ∀ w ∈ u_ws RX12 TX12 16, w ∈ wsX12_ranked := by decide +kernel
  refine x_start (cc := cX12_ranked) (maxL := 7) (ret := (some .int)) (own := RX12) (by decide) rfl rfl (Nat.le_of_ble_eq_true rfl) (lst := [(0, .ref (x_b G + 175)), (1, .int x), (2, .int 0)]) rfl ?_
  intro p e s m args below meth c C hr hlocks
  refine a_iconst C dX12_ranked_0 (v := 0) (by decide) ?_
  refine a_istore_n C dX12_ranked_1 (by decide) (lst2 := [(3, .int 0), (0, .ref (x_b G + 175)), (1, .int x), (2, .int 0)]) rfl ?_
  have L2 : ∀ (j i : Nat), i ≤ k9 → k9 < i + j → Ab G p l e (x_rm 4 0 0) s m args below meth c 7 0 0 (MQ below (x_Q G (some (.int (nI k9))) (g_th d 0)) args s 0 0 (x_A G)) 2 [(3, .int (nI i)), (0, .ref (x_b G + 175)), (1, .int x), (2, .int 0)] [] d := by
    intro j
    induction j with
    | zero => intro i h1 h2; exact absurd h2 (by omega)
    | succ j ih =>
      intro i hi hj 
      have hlt : i < n := by omega
      refine a_iload_n C dX12_ranked_2 0 rfl ?_
      refine a_aload_n C dX12_ranked_3 1 rfl ?_
      refine a_getR C (k := 175) iX12 x_k175 rfl (j := 0) rfl (by decide) (by decide +kernel) dX12_ranked_4 ?_
      refine a_iconst C dX12_ranked_7 (v := 0) (by decide) ?_
      refine a_ialdN C (k := 176) x_k176 (i := 0) rfl (by decide) (by first | decide | omega) dX12_ranked_8 ?_
      refine a_top (y := (nI n)) hn ?_
      refine a_icmp_ge C dX12_ranked_9 (tgt := 95) (by decide) (fun h => False.elim (absurd ((nI_leI (by omega) (by omega)).mp h) (by omega))) (fun h9 => ?_)
      refine a_iconst C dX12_ranked_12 (v := 0) (by decide) ?_
      refine a_istore C dX12_ranked_13 (by decide) (lst2 := [(4, .int 0), (3, .int (nI i)), (0, .ref (x_b G + 175)), (1, .int x), (2, .int 0)]) rfl ?_
      refine a_iconst C dX12_ranked_15 (v := 0) (by decide) ?_
      refine a_istore C dX12_ranked_16 (by decide) (lst2 := [(5, .int 0), (4, .int 0), (3, .int (nI i)), (0, .ref (x_b G + 175)), (1, .int x), (2, .int 0)]) rfl ?_
      have L18 : ∀ (j k : Nat), k ≤ n → n < k + j → Ab G p l e (x_rm 4 0 0) s m args below meth c 7 0 0 (MQ below (x_Q G (some (.int (nI k9))) (g_th d 0)) args s 0 0 (x_A G)) 18 [(5, .int (nI k)), (4, .int (nI (g_ah r i k))), (3, .int (nI i)), (0, .ref (x_b G + 175)), (1, .int x), (2, .int 0)] [] d := by
        intro j
        induction j with
        | zero => intro k h1 h2; exact absurd h2 (by omega)
        | succ j ihk =>
          intro k hk hj 
          refine a_iload C dX12_ranked_18 0 rfl ?_
          refine a_aload_n C dX12_ranked_20 3 rfl ?_
          refine a_getR C (k := 175) iX12 x_k175 rfl (j := 0) rfl (by decide) (by decide +kernel) dX12_ranked_21 ?_
          refine a_iconst C dX12_ranked_24 (v := 0) (by decide) ?_
          refine a_ialdN C (k := 176) x_k176 (i := 0) rfl (by decide) (by first | decide | omega) dX12_ranked_25 ?_
          refine a_top (y := (nI n)) hn ?_
          refine a_icmp_ge C dX12_ranked_26 (tgt := 77) (by decide) (fun h26 => ?_) (fun h26 => ?_)
          · skip
            have e := x_ge h26 hk (by omega)
            have e9 := e.symm
            subst e9
            clear e
            refine a_iload C dX12_ranked_77 1 rfl ?_
            refine a_iload_n C dX12_ranked_79 4 rfl ?_
            refine a_icmp_ne C dX12_ranked_80 (tgt := 89) (by decide) (fun h80 => ?_) (fun h80 => ?_)
            · skip
              have hlt9 : i < k9 := by
                rcases Nat.lt_or_ge i k9 with z | z
                · exact z
                · have e : i = k9 := by omega
                  subst e
                  exact absurd hk1 h80
              refine a_iinc C dX12_ranked_89 2 rfl (v := (nI (i + 1))) (x_inc i) (by decide) (lst2 := [(3, .int (nI (i + 1))), (5, .int (nI n)), (4, .int (nI (g_ah r i n))), (0, .ref (x_b G + 175)), (1, .int x), (2, .int 0)]) rfl ?_
              refine a_goto C dX12_ranked_92 (tgt := 2) (by decide) ?_
              refine a_sub (lst2 := [(3, .int (nI (i + 1))), (0, .ref (x_b G + 175)), (1, .int x), (2, .int 0)]) [0, 3, 4, 5] rfl ?_
              exact ih (i + 1) (by omega) (by omega) 
            · skip
              have e : i = k9 := by
                rcases Nat.lt_or_ge i k9 with z | z
                · exact absurd (Decidable.not_not.mp (fun q => q h80)) (hk0 i z)
                · omega
              subst e
              refine a_aload_n C dX12_ranked_83 3 rfl ?_
              refine a_iload_n C dX12_ranked_84 2 rfl ?_
              refine a_callV C (k := 175) (As := [.int (nI i)]) (rest := []) (c_M_done l G d (nI i)) (cwV 1 C.1.2.2.2.2 gX12_ranked_X12_done rfl rfl rfl (by decide +kernel) ⟨Nat.le_of_ble_eq_true rfl, Nat.le_of_ble_eq_true rfl⟩) x_k175 (q := (RX12, TX12, 16)) rfl rfl rfl rfl (Nat.le_of_ble_eq_true rfl) dX12_ranked_85 ⟨Nat.le_of_ble_eq_true rfl, Nat.le_of_ble_eq_true rfl⟩ ?_
              exact a_iret C hlocks hr dX12_ranked_88 rfl rfl
          · skip
            have hltk := x_nge h26 hk
            have hrk := hr9 k hltk
            have hri := hr9 i hlt
            refine a_aload_n C dX12_ranked_29 3 rfl ?_
            refine a_iload C dX12_ranked_30 0 rfl ?_
            refine a_iload_n C dX12_ranked_32 5 rfl ?_
            refine a_callV C (k := 175) (As := [.int (nI k), .int 0]) (rest := []) (c_M_measure_0 l G d k (by omega) (hb k hltk)) (cwV 2 C.1.2.2.2.2 gX12_ranked_X12_measure rfl rfl rfl (by decide +kernel) ⟨Nat.le_of_ble_eq_true rfl, Nat.le_of_ble_eq_true rfl⟩) x_k175 (q := (RX12, TX12, 16)) rfl rfl rfl rfl (Nat.le_of_ble_eq_true rfl) dX12_ranked_33 ⟨Nat.le_of_ble_eq_true rfl, Nat.le_of_ble_eq_true rfl⟩ ?_
            refine a_top (y := nI (r k)) (hv k hltk) ?_
            refine a_aload_n C dX12_ranked_36 3 rfl ?_
            refine a_iload_n C dX12_ranked_37 2 rfl ?_
            refine a_iload_n C dX12_ranked_38 5 rfl ?_
            refine a_callV C (k := 175) (As := [.int (nI i), .int 0]) (rest := [.int (nI (r k))]) (c_M_measure_0 l G d i (by omega) (hb i hlt)) (cwV 2 C.1.2.2.2.2 gX12_ranked_X12_measure rfl rfl rfl (by decide +kernel) ⟨Nat.le_of_ble_eq_true rfl, Nat.le_of_ble_eq_true rfl⟩) x_k175 (q := (RX12, TX12, 16)) rfl rfl rfl rfl (Nat.le_of_ble_eq_true rfl) dX12_ranked_39 ⟨Nat.le_of_ble_eq_true rfl, Nat.le_of_ble_eq_true rfl⟩ ?_
            refine a_top (y := nI (r i)) (hv i hlt) ?_
            refine a_isub C dX12_ranked_42 ?_
            refine a_istore C dX12_ranked_43 (by decide) (lst2 := [(6, .int ((nI (r k)) - (nI (r i)))), (5, .int (nI k)), (4, .int (nI (g_ah r i k))), (3, .int (nI i)), (0, .ref (x_b G + 175)), (1, .int x), (2, .int 0)]) rfl ?_
            refine a_iload C dX12_ranked_45 2 rfl ?_
            refine a_iload C dX12_ranked_47 0 rfl ?_
            refine a_if_gt C dX12_ranked_49 (tgt := 63) (by decide) (fun h49 => ?_) (fun h49 => ?_)
            · skip
              refine a_iconst C dX12_ranked_63 (v := 1) (by decide) ?_
              refine a_goto C dX12_ranked_64 (tgt := 68) (by decide) ?_
              refine a_iadd C dX12_ranked_68 ?_
              refine a_top (y := (nI (g_ah r i (k + 1)))) (by rw [g_ah, if_pos (Or.inl ((x_gt_sub (by omega) (by omega)).mp h49))]; exact nI_1 _) ?_
              refine a_istore C dX12_ranked_69 (by decide) (lst2 := [(4, .int (nI (g_ah r i (k + 1)))), (6, .int ((nI (r k)) - (nI (r i)))), (5, .int (nI k)), (3, .int (nI i)), (0, .ref (x_b G + 175)), (1, .int x), (2, .int 0)]) rfl ?_
              refine a_iinc C dX12_ranked_71 2 rfl (v := (nI (k + 1))) (x_inc k) (by decide) (lst2 := [(5, .int (nI (k + 1))), (4, .int (nI (g_ah r i (k + 1)))), (6, .int ((nI (r k)) - (nI (r i)))), (3, .int (nI i)), (0, .ref (x_b G + 175)), (1, .int x), (2, .int 0)]) rfl ?_
              refine a_goto C dX12_ranked_74 (tgt := 18) (by decide) ?_
              refine a_sub (lst2 := [(5, .int (nI (k + 1))), (4, .int (nI (g_ah r i (k + 1)))), (3, .int (nI i)), (0, .ref (x_b G + 175)), (1, .int x), (2, .int 0)]) [0, 1, 3, 4, 5, 6] rfl ?_
              exact ihk (k + 1) (by omega) (by omega) 
            · skip
              refine a_iload C dX12_ranked_52 0 rfl ?_
              refine a_if_ne C dX12_ranked_54 (tgt := 67) (by decide) (fun h54 => ?_) (fun h54 => ?_)
              · skip
                refine a_iconst C dX12_ranked_67 (v := 0) (by decide) ?_
                refine a_iadd C dX12_ranked_68 ?_
                refine a_top (y := (nI (g_ah r i (k + 1)))) (by rw [g_ah, if_neg (fun z => z.elim (fun z => h49 ((x_gt_sub (by omega) (by omega)).mpr z)) (fun z => h54 ((x_eq_sub (by omega) (by omega)).mpr z.1)))]; exact nI_add _ 0) ?_
                refine a_istore C dX12_ranked_69 (by decide) (lst2 := [(4, .int (nI (g_ah r i (k + 1)))), (6, .int ((nI (r k)) - (nI (r i)))), (5, .int (nI k)), (3, .int (nI i)), (0, .ref (x_b G + 175)), (1, .int x), (2, .int 0)]) rfl ?_
                refine a_iinc C dX12_ranked_71 2 rfl (v := (nI (k + 1))) (x_inc k) (by decide) (lst2 := [(5, .int (nI (k + 1))), (4, .int (nI (g_ah r i (k + 1)))), (6, .int ((nI (r k)) - (nI (r i)))), (3, .int (nI i)), (0, .ref (x_b G + 175)), (1, .int x), (2, .int 0)]) rfl ?_
                refine a_goto C dX12_ranked_74 (tgt := 18) (by decide) ?_
                refine a_sub (lst2 := [(5, .int (nI (k + 1))), (4, .int (nI (g_ah r i (k + 1)))), (3, .int (nI i)), (0, .ref (x_b G + 175)), (1, .int x), (2, .int 0)]) [0, 1, 3, 4, 5, 6] rfl ?_
                exact ihk (k + 1) (by omega) (by omega) 
              · skip
                refine a_iload C dX12_ranked_57 1 rfl ?_
                refine a_iload_n C dX12_ranked_59 3 rfl ?_
                refine a_icmp_ge C dX12_ranked_60 (tgt := 67) (by decide) (fun h60 => ?_) (fun h60 => ?_)
                · skip
                  refine a_iconst C dX12_ranked_67 (v := 0) (by decide) ?_
                  refine a_iadd C dX12_ranked_68 ?_
                  refine a_top (y := (nI (g_ah r i (k + 1)))) (by rw [g_ah, if_neg (fun z => z.elim (fun z => h49 ((x_gt_sub (by omega) (by omega)).mpr z)) (fun z => absurd ((nI_leI (by omega) (by omega)).mp h60) (by omega)))]; exact nI_add _ 0) ?_
                  refine a_istore C dX12_ranked_69 (by decide) (lst2 := [(4, .int (nI (g_ah r i (k + 1)))), (6, .int ((nI (r k)) - (nI (r i)))), (5, .int (nI k)), (3, .int (nI i)), (0, .ref (x_b G + 175)), (1, .int x), (2, .int 0)]) rfl ?_
                  refine a_iinc C dX12_ranked_71 2 rfl (v := (nI (k + 1))) (x_inc k) (by decide) (lst2 := [(5, .int (nI (k + 1))), (4, .int (nI (g_ah r i (k + 1)))), (6, .int ((nI (r k)) - (nI (r i)))), (3, .int (nI i)), (0, .ref (x_b G + 175)), (1, .int x), (2, .int 0)]) rfl ?_
                  refine a_goto C dX12_ranked_74 (tgt := 18) (by decide) ?_
                  refine a_sub (lst2 := [(5, .int (nI (k + 1))), (4, .int (nI (g_ah r i (k + 1)))), (3, .int (nI i)), (0, .ref (x_b G + 175)), (1, .int x), (2, .int 0)]) [0, 1, 3, 4, 5, 6] rfl ?_
                  exact ihk (k + 1) (by omega) (by omega) 
                · skip
                  refine a_iconst C dX12_ranked_63 (v := 1) (by decide) ?_
                  refine a_goto C dX12_ranked_64 (tgt := 68) (by decide) ?_
                  refine a_iadd C dX12_ranked_68 ?_
                  refine a_top (y := (nI (g_ah r i (k + 1)))) (by rw [g_ah, if_pos (Or.inr ⟨(x_eq_sub (by omega) (by omega)).mp h54, by rcases Nat.lt_or_ge k i with z | z; exact z; exact absurd ((nI_leI (by omega) (by omega)).mpr z) h60⟩)]; exact nI_1 _) ?_
                  refine a_istore C dX12_ranked_69 (by decide) (lst2 := [(4, .int (nI (g_ah r i (k + 1)))), (6, .int ((nI (r k)) - (nI (r i)))), (5, .int (nI k)), (3, .int (nI i)), (0, .ref (x_b G + 175)), (1, .int x), (2, .int 0)]) rfl ?_
                  refine a_iinc C dX12_ranked_71 2 rfl (v := (nI (k + 1))) (x_inc k) (by decide) (lst2 := [(5, .int (nI (k + 1))), (4, .int (nI (g_ah r i (k + 1)))), (6, .int ((nI (r k)) - (nI (r i)))), (3, .int (nI i)), (0, .ref (x_b G + 175)), (1, .int x), (2, .int 0)]) rfl ?_
                  refine a_goto C dX12_ranked_74 (tgt := 18) (by decide) ?_
                  refine a_sub (lst2 := [(5, .int (nI (k + 1))), (4, .int (nI (g_ah r i (k + 1)))), (3, .int (nI i)), (0, .ref (x_b G + 175)), (1, .int x), (2, .int 0)]) [0, 1, 3, 4, 5, 6] rfl ?_
                  exact ihk (k + 1) (by omega) (by omega) 
      refine a_sub (lst2 := [(5, .int 0), (4, .int 0), (3, .int (nI i)), (0, .ref (x_b G + 175)), (1, .int x), (2, .int 0)]) [0, 1, 2, 3, 4, 5] rfl ?_
      exact L18 (n + 1) 0 (by omega) (by omega) 
  refine a_sub (lst2 := [(3, .int 0), (0, .ref (x_b G + 175)), (1, .int x), (2, .int 0)]) [0, 1, 2, 3] rfl ?_
  exact L2 (k9 + 1) 0 (by omega) (by omega) 

set_option maxHeartbeats 1000000 in
set_option maxRecDepth 100000 in
theorem c_M_ranked_0f (l : Launch) (G : xG) (d : xd) (x : Int32) (n : Nat) (hn : d 176 0 = nI n) (h8 : n ≤ 8) (r : Nat → Nat) (hr9 : ∀ j, j < n → r j < 100000) (hv : ∀ j, j < n → g_las (d 176) j = nI (r j)) (hb : ∀ j, j < n → ¬ d 176 (22 + j) = 0) (hk0 : ∀ j, j < n → ¬ nI (g_ah r j n) = x) : x_M G l yX12_ranked wsX12_ranked 4 0 0 [.ref (x_b G + 175), .int x, .int 0] d (some (.int 0)) (g_th d 1) := by
  have iX12 : ∀ w ∈ u_ws RX12 TX12 16, w ∈ wsX12_ranked := by decide +kernel
  refine x_start (cc := cX12_ranked) (maxL := 7) (ret := (some .int)) (own := RX12) (by decide) rfl rfl (Nat.le_of_ble_eq_true rfl) (lst := [(0, .ref (x_b G + 175)), (1, .int x), (2, .int 0)]) rfl ?_
  intro p e s m args below meth c C hr hlocks
  refine a_iconst C dX12_ranked_0 (v := 0) (by decide) ?_
  refine a_istore_n C dX12_ranked_1 (by decide) (lst2 := [(3, .int 0), (0, .ref (x_b G + 175)), (1, .int x), (2, .int 0)]) rfl ?_
  have L2 : ∀ (j i : Nat), i ≤ n → n < i + j → Ab G p l e (x_rm 4 0 0) s m args below meth c 7 0 0 (MQ below (x_Q G (some (.int 0)) (g_th d 1)) args s 0 0 (x_A G)) 2 [(3, .int (nI i)), (0, .ref (x_b G + 175)), (1, .int x), (2, .int 0)] [] d := by
    intro j
    induction j with
    | zero => intro i h1 h2; exact absurd h2 (by omega)
    | succ j ih =>
      intro i hi hj 
      refine a_iload_n C dX12_ranked_2 0 rfl ?_
      refine a_aload_n C dX12_ranked_3 1 rfl ?_
      refine a_getR C (k := 175) iX12 x_k175 rfl (j := 0) rfl (by decide) (by decide +kernel) dX12_ranked_4 ?_
      refine a_iconst C dX12_ranked_7 (v := 0) (by decide) ?_
      refine a_ialdN C (k := 176) x_k176 (i := 0) rfl (by decide) (by first | decide | omega) dX12_ranked_8 ?_
      refine a_top (y := (nI n)) hn ?_
      refine a_icmp_ge C dX12_ranked_9 (tgt := 95) (by decide) (fun h9 => ?_) (fun h9 => ?_)
      · skip
        have e := x_ge h9 hi (by omega)
        have e9 := e.symm
        subst e9
        clear e
        refine a_aload_n C dX12_ranked_95 1 rfl ?_
        refine a_iconst C dX12_ranked_96 (v := 1) (by decide) ?_
        refine a_callV C (k := 175) (As := [.int 1]) (rest := []) (c_M_fails l G d 1) (cwV 1 C.1.2.2.2.2 gX12_ranked_X12_fails rfl rfl rfl (by decide +kernel) ⟨Nat.le_of_ble_eq_true rfl, Nat.le_of_ble_eq_true rfl⟩) x_k175 (q := (RX12, TX12, 16)) rfl rfl rfl rfl (Nat.le_of_ble_eq_true rfl) dX12_ranked_97 ⟨Nat.le_of_ble_eq_true rfl, Nat.le_of_ble_eq_true rfl⟩ ?_
        exact a_iret C hlocks hr dX12_ranked_100 rfl rfl
      · skip
        have hlt := x_nge h9 hi
        refine a_iconst C dX12_ranked_12 (v := 0) (by decide) ?_
        refine a_istore C dX12_ranked_13 (by decide) (lst2 := [(4, .int 0), (3, .int (nI i)), (0, .ref (x_b G + 175)), (1, .int x), (2, .int 0)]) rfl ?_
        refine a_iconst C dX12_ranked_15 (v := 0) (by decide) ?_
        refine a_istore C dX12_ranked_16 (by decide) (lst2 := [(5, .int 0), (4, .int 0), (3, .int (nI i)), (0, .ref (x_b G + 175)), (1, .int x), (2, .int 0)]) rfl ?_
        have L18 : ∀ (j k : Nat), k ≤ n → n < k + j → Ab G p l e (x_rm 4 0 0) s m args below meth c 7 0 0 (MQ below (x_Q G (some (.int 0)) (g_th d 1)) args s 0 0 (x_A G)) 18 [(5, .int (nI k)), (4, .int (nI (g_ah r i k))), (3, .int (nI i)), (0, .ref (x_b G + 175)), (1, .int x), (2, .int 0)] [] d := by
          intro j
          induction j with
          | zero => intro k h1 h2; exact absurd h2 (by omega)
          | succ j ihk =>
            intro k hk hj 
            refine a_iload C dX12_ranked_18 0 rfl ?_
            refine a_aload_n C dX12_ranked_20 3 rfl ?_
            refine a_getR C (k := 175) iX12 x_k175 rfl (j := 0) rfl (by decide) (by decide +kernel) dX12_ranked_21 ?_
            refine a_iconst C dX12_ranked_24 (v := 0) (by decide) ?_
            refine a_ialdN C (k := 176) x_k176 (i := 0) rfl (by decide) (by first | decide | omega) dX12_ranked_25 ?_
            refine a_top (y := (nI n)) hn ?_
            refine a_icmp_ge C dX12_ranked_26 (tgt := 77) (by decide) (fun h26 => ?_) (fun h26 => ?_)
            · skip
              have e := x_ge h26 hk (by omega)
              have e9 := e.symm
              subst e9
              clear e
              refine a_iload C dX12_ranked_77 1 rfl ?_
              refine a_iload_n C dX12_ranked_79 4 rfl ?_
              refine a_icmp_ne C dX12_ranked_80 (tgt := 89) (by decide) (fun h80 => ?_) (fun h80 => ?_)
              · skip
                refine a_iinc C dX12_ranked_89 2 rfl (v := (nI (i + 1))) (x_inc i) (by decide) (lst2 := [(3, .int (nI (i + 1))), (5, .int (nI n)), (4, .int (nI (g_ah r i n))), (0, .ref (x_b G + 175)), (1, .int x), (2, .int 0)]) rfl ?_
                refine a_goto C dX12_ranked_92 (tgt := 2) (by decide) ?_
                refine a_sub (lst2 := [(3, .int (nI (i + 1))), (0, .ref (x_b G + 175)), (1, .int x), (2, .int 0)]) [0, 3, 4, 5] rfl ?_
                exact ih (i + 1) (by omega) (by omega) 
              · skip
                exact absurd (Decidable.not_not.mp (fun q => q h80)) (hk0 i hlt)
            · skip
              have hltk := x_nge h26 hk
              have hrk := hr9 k hltk
              have hri := hr9 i hlt
              refine a_aload_n C dX12_ranked_29 3 rfl ?_
              refine a_iload C dX12_ranked_30 0 rfl ?_
              refine a_iload_n C dX12_ranked_32 5 rfl ?_
              refine a_callV C (k := 175) (As := [.int (nI k), .int 0]) (rest := []) (c_M_measure_0 l G d k (by omega) (hb k hltk)) (cwV 2 C.1.2.2.2.2 gX12_ranked_X12_measure rfl rfl rfl (by decide +kernel) ⟨Nat.le_of_ble_eq_true rfl, Nat.le_of_ble_eq_true rfl⟩) x_k175 (q := (RX12, TX12, 16)) rfl rfl rfl rfl (Nat.le_of_ble_eq_true rfl) dX12_ranked_33 ⟨Nat.le_of_ble_eq_true rfl, Nat.le_of_ble_eq_true rfl⟩ ?_
              refine a_top (y := nI (r k)) (hv k hltk) ?_
              refine a_aload_n C dX12_ranked_36 3 rfl ?_
              refine a_iload_n C dX12_ranked_37 2 rfl ?_
              refine a_iload_n C dX12_ranked_38 5 rfl ?_
              refine a_callV C (k := 175) (As := [.int (nI i), .int 0]) (rest := [.int (nI (r k))]) (c_M_measure_0 l G d i (by omega) (hb i hlt)) (cwV 2 C.1.2.2.2.2 gX12_ranked_X12_measure rfl rfl rfl (by decide +kernel) ⟨Nat.le_of_ble_eq_true rfl, Nat.le_of_ble_eq_true rfl⟩) x_k175 (q := (RX12, TX12, 16)) rfl rfl rfl rfl (Nat.le_of_ble_eq_true rfl) dX12_ranked_39 ⟨Nat.le_of_ble_eq_true rfl, Nat.le_of_ble_eq_true rfl⟩ ?_
              refine a_top (y := nI (r i)) (hv i hlt) ?_
              refine a_isub C dX12_ranked_42 ?_
              refine a_istore C dX12_ranked_43 (by decide) (lst2 := [(6, .int ((nI (r k)) - (nI (r i)))), (5, .int (nI k)), (4, .int (nI (g_ah r i k))), (3, .int (nI i)), (0, .ref (x_b G + 175)), (1, .int x), (2, .int 0)]) rfl ?_
              refine a_iload C dX12_ranked_45 2 rfl ?_
              refine a_iload C dX12_ranked_47 0 rfl ?_
              refine a_if_gt C dX12_ranked_49 (tgt := 63) (by decide) (fun h49 => ?_) (fun h49 => ?_)
              · skip
                refine a_iconst C dX12_ranked_63 (v := 1) (by decide) ?_
                refine a_goto C dX12_ranked_64 (tgt := 68) (by decide) ?_
                refine a_iadd C dX12_ranked_68 ?_
                refine a_top (y := (nI (g_ah r i (k + 1)))) (by rw [g_ah, if_pos (Or.inl ((x_gt_sub (by omega) (by omega)).mp h49))]; exact nI_1 _) ?_
                refine a_istore C dX12_ranked_69 (by decide) (lst2 := [(4, .int (nI (g_ah r i (k + 1)))), (6, .int ((nI (r k)) - (nI (r i)))), (5, .int (nI k)), (3, .int (nI i)), (0, .ref (x_b G + 175)), (1, .int x), (2, .int 0)]) rfl ?_
                refine a_iinc C dX12_ranked_71 2 rfl (v := (nI (k + 1))) (x_inc k) (by decide) (lst2 := [(5, .int (nI (k + 1))), (4, .int (nI (g_ah r i (k + 1)))), (6, .int ((nI (r k)) - (nI (r i)))), (3, .int (nI i)), (0, .ref (x_b G + 175)), (1, .int x), (2, .int 0)]) rfl ?_
                refine a_goto C dX12_ranked_74 (tgt := 18) (by decide) ?_
                refine a_sub (lst2 := [(5, .int (nI (k + 1))), (4, .int (nI (g_ah r i (k + 1)))), (3, .int (nI i)), (0, .ref (x_b G + 175)), (1, .int x), (2, .int 0)]) [0, 1, 3, 4, 5, 6] rfl ?_
                exact ihk (k + 1) (by omega) (by omega) 
              · skip
                refine a_iload C dX12_ranked_52 0 rfl ?_
                refine a_if_ne C dX12_ranked_54 (tgt := 67) (by decide) (fun h54 => ?_) (fun h54 => ?_)
                · skip
                  refine a_iconst C dX12_ranked_67 (v := 0) (by decide) ?_
                  refine a_iadd C dX12_ranked_68 ?_
                  refine a_top (y := (nI (g_ah r i (k + 1)))) (by rw [g_ah, if_neg (fun z => z.elim (fun z => h49 ((x_gt_sub (by omega) (by omega)).mpr z)) (fun z => h54 ((x_eq_sub (by omega) (by omega)).mpr z.1)))]; exact nI_add _ 0) ?_
                  refine a_istore C dX12_ranked_69 (by decide) (lst2 := [(4, .int (nI (g_ah r i (k + 1)))), (6, .int ((nI (r k)) - (nI (r i)))), (5, .int (nI k)), (3, .int (nI i)), (0, .ref (x_b G + 175)), (1, .int x), (2, .int 0)]) rfl ?_
                  refine a_iinc C dX12_ranked_71 2 rfl (v := (nI (k + 1))) (x_inc k) (by decide) (lst2 := [(5, .int (nI (k + 1))), (4, .int (nI (g_ah r i (k + 1)))), (6, .int ((nI (r k)) - (nI (r i)))), (3, .int (nI i)), (0, .ref (x_b G + 175)), (1, .int x), (2, .int 0)]) rfl ?_
                  refine a_goto C dX12_ranked_74 (tgt := 18) (by decide) ?_
                  refine a_sub (lst2 := [(5, .int (nI (k + 1))), (4, .int (nI (g_ah r i (k + 1)))), (3, .int (nI i)), (0, .ref (x_b G + 175)), (1, .int x), (2, .int 0)]) [0, 1, 3, 4, 5, 6] rfl ?_
                  exact ihk (k + 1) (by omega) (by omega) 
                · skip
                  refine a_iload C dX12_ranked_57 1 rfl ?_
                  refine a_iload_n C dX12_ranked_59 3 rfl ?_
                  refine a_icmp_ge C dX12_ranked_60 (tgt := 67) (by decide) (fun h60 => ?_) (fun h60 => ?_)
                  · skip
                    refine a_iconst C dX12_ranked_67 (v := 0) (by decide) ?_
                    refine a_iadd C dX12_ranked_68 ?_
                    refine a_top (y := (nI (g_ah r i (k + 1)))) (by rw [g_ah, if_neg (fun z => z.elim (fun z => h49 ((x_gt_sub (by omega) (by omega)).mpr z)) (fun z => absurd ((nI_leI (by omega) (by omega)).mp h60) (by omega)))]; exact nI_add _ 0) ?_
                    refine a_istore C dX12_ranked_69 (by decide) (lst2 := [(4, .int (nI (g_ah r i (k + 1)))), (6, .int ((nI (r k)) - (nI (r i)))), (5, .int (nI k)), (3, .int (nI i)), (0, .ref (x_b G + 175)), (1, .int x), (2, .int 0)]) rfl ?_
                    refine a_iinc C dX12_ranked_71 2 rfl (v := (nI (k + 1))) (x_inc k) (by decide) (lst2 := [(5, .int (nI (k + 1))), (4, .int (nI (g_ah r i (k + 1)))), (6, .int ((nI (r k)) - (nI (r i)))), (3, .int (nI i)), (0, .ref (x_b G + 175)), (1, .int x), (2, .int 0)]) rfl ?_
                    refine a_goto C dX12_ranked_74 (tgt := 18) (by decide) ?_
                    refine a_sub (lst2 := [(5, .int (nI (k + 1))), (4, .int (nI (g_ah r i (k + 1)))), (3, .int (nI i)), (0, .ref (x_b G + 175)), (1, .int x), (2, .int 0)]) [0, 1, 3, 4, 5, 6] rfl ?_
                    exact ihk (k + 1) (by omega) (by omega) 
                  · skip
                    refine a_iconst C dX12_ranked_63 (v := 1) (by decide) ?_
                    refine a_goto C dX12_ranked_64 (tgt := 68) (by decide) ?_
                    refine a_iadd C dX12_ranked_68 ?_
                    refine a_top (y := (nI (g_ah r i (k + 1)))) (by rw [g_ah, if_pos (Or.inr ⟨(x_eq_sub (by omega) (by omega)).mp h54, by rcases Nat.lt_or_ge k i with z | z; exact z; exact absurd ((nI_leI (by omega) (by omega)).mpr z) h60⟩)]; exact nI_1 _) ?_
                    refine a_istore C dX12_ranked_69 (by decide) (lst2 := [(4, .int (nI (g_ah r i (k + 1)))), (6, .int ((nI (r k)) - (nI (r i)))), (5, .int (nI k)), (3, .int (nI i)), (0, .ref (x_b G + 175)), (1, .int x), (2, .int 0)]) rfl ?_
                    refine a_iinc C dX12_ranked_71 2 rfl (v := (nI (k + 1))) (x_inc k) (by decide) (lst2 := [(5, .int (nI (k + 1))), (4, .int (nI (g_ah r i (k + 1)))), (6, .int ((nI (r k)) - (nI (r i)))), (3, .int (nI i)), (0, .ref (x_b G + 175)), (1, .int x), (2, .int 0)]) rfl ?_
                    refine a_goto C dX12_ranked_74 (tgt := 18) (by decide) ?_
                    refine a_sub (lst2 := [(5, .int (nI (k + 1))), (4, .int (nI (g_ah r i (k + 1)))), (3, .int (nI i)), (0, .ref (x_b G + 175)), (1, .int x), (2, .int 0)]) [0, 1, 3, 4, 5, 6] rfl ?_
                    exact ihk (k + 1) (by omega) (by omega) 
        refine a_sub (lst2 := [(5, .int 0), (4, .int 0), (3, .int (nI i)), (0, .ref (x_b G + 175)), (1, .int x), (2, .int 0)]) [0, 1, 2, 3, 4, 5] rfl ?_
        exact L18 (n + 1) 0 (by omega) (by omega) 
  refine a_sub (lst2 := [(3, .int 0), (0, .ref (x_b G + 175)), (1, .int x), (2, .int 0)]) [0, 1, 2, 3] rfl ?_
  exact L2 (n + 1) 0 (by omega) (by omega) 

set_option maxHeartbeats 1000000 in
set_option maxRecDepth 100000 in
theorem c_M_longestLamp (l : Launch) (G : xG) (d : xd) (x : Int32) (k9 : Nat) (n : Nat) (hn : d 176 0 = nI n) (h8 : n ≤ 8) (hk9 : k9 < n) (r : Nat → Nat) (hr9 : ∀ j, j < n → r j < 100000) (hv : ∀ j, j < n → g_las (d 176) j = nI (r j)) (hb : ∀ j, j < n → ¬ d 176 (22 + j) = 0) (hk1 : nI (g_ah r k9 n) = x) (hk0 : ∀ j, j < k9 → ¬ nI (g_ah r j n) = x) : x_M G l yX12_longestLamp wsX12_longestLamp 5 0 0 [.ref (x_b G + 175), .int x] d (some (.int (nI k9))) (g_th d 0) := by
  refine x_start (cc := cX12_longestLamp) (maxL := 2) (ret := (some .int)) (own := RX12) (by decide) rfl rfl (Nat.le_of_ble_eq_true rfl) (lst := [(0, .ref (x_b G + 175)), (1, .int x)]) rfl ?_
  intro p e s m args below meth c C hr hlocks
  refine a_aload_n C dX12_longestLamp_0 0 rfl ?_
  refine a_iload_n C dX12_longestLamp_1 1 rfl ?_
  refine a_iconst C dX12_longestLamp_2 (v := 0) (by decide) ?_
  refine a_callV C (k := 175) (As := [.int x, .int 0]) (rest := []) (c_M_ranked_0 l G d x k9 n hn h8 hk9 r hr9 hv hb hk1 hk0) (cwV 2 C.1.2.2.2.2 gX12_longestLamp_X12_ranked rfl rfl rfl (by decide +kernel) ⟨Nat.le_of_ble_eq_true rfl, Nat.le_of_ble_eq_true rfl⟩) x_k175 (q := (RX12, TX12, 16)) rfl rfl rfl rfl (Nat.le_of_ble_eq_true rfl) dX12_longestLamp_3 ⟨Nat.le_of_ble_eq_true rfl, Nat.le_of_ble_eq_true rfl⟩ ?_
  exact a_iret C hlocks hr dX12_longestLamp_6 rfl rfl

set_option maxHeartbeats 1000000 in
set_option maxRecDepth 100000 in
theorem c_M_longestLamp_1 (l : Launch) (G : xG) (d : xd) (x : Int32) (n : Nat) (hn : d 176 0 = nI n) (h8 : n ≤ 8) (r : Nat → Nat) (hr9 : ∀ j, j < n → r j < 100000) (hv : ∀ j, j < n → g_las (d 176) j = nI (r j)) (hb : ∀ j, j < n → ¬ d 176 (22 + j) = 0) (hk0 : ∀ j, j < n → ¬ nI (g_ah r j n) = x) : x_M G l yX12_longestLamp wsX12_longestLamp 5 0 0 [.ref (x_b G + 175), .int x] d (some (.int 0)) (g_th d 1) := by
  refine x_start (cc := cX12_longestLamp) (maxL := 2) (ret := (some .int)) (own := RX12) (by decide) rfl rfl (Nat.le_of_ble_eq_true rfl) (lst := [(0, .ref (x_b G + 175)), (1, .int x)]) rfl ?_
  intro p e s m args below meth c C hr hlocks
  refine a_aload_n C dX12_longestLamp_0 0 rfl ?_
  refine a_iload_n C dX12_longestLamp_1 1 rfl ?_
  refine a_iconst C dX12_longestLamp_2 (v := 0) (by decide) ?_
  refine a_callV C (k := 175) (As := [.int x, .int 0]) (rest := []) (c_M_ranked_0f l G d x n hn h8 r hr9 hv hb hk0) (cwV 2 C.1.2.2.2.2 gX12_longestLamp_X12_ranked rfl rfl rfl (by decide +kernel) ⟨Nat.le_of_ble_eq_true rfl, Nat.le_of_ble_eq_true rfl⟩) x_k175 (q := (RX12, TX12, 16)) rfl rfl rfl rfl (Nat.le_of_ble_eq_true rfl) dX12_longestLamp_3 ⟨Nat.le_of_ble_eq_true rfl, Nat.le_of_ble_eq_true rfl⟩ ?_
  exact a_iret C hlocks hr dX12_longestLamp_6 rfl rfl

theorem x_chr {k : Nat} (h : k < 65536) : ((nI k).toUInt32 % 65536).toInt32 = nI k := by
  rw [pk_char]
  congr 1
  have e : (nI k).toBitVec.toNat = k := by
    show (BitVec.ofNat 32 k).toNat = k
    rw [BitVec.toNat_ofNat]
    omega
  rw [e]
  omega
theorem x_chn {k : Nat} (h : k < 65536) : vp_nar .char (nI k) = nI k := by
  unfold vp_nar
  rw [(pk_charN h).1]
def g_w1 (d : xd) (k a : Nat) : xd := x_p (x_p d 181 k (nI a)) 175 11 (nI (k + 1))
def g_w2 (d : xd) (k a v : Nat) : xd := if v < 10 then g_w1 (g_w1 d k a) (k + 1) (48 + v) else g_w1 (g_w1 (g_w1 d k a) (k + 1) (48 + v / 10)) (k + 2) (48 + v % 10)
def g_wl (k v : Nat) : Nat := if v < 10 then k + 2 else k + 3
theorem g_w1_11 (d : xd) (k a : Nat) : g_w1 d k a 175 11 = nI (k + 1) := by
  unfold g_w1
  rw [x_p_at]
theorem g_w1_out {d : xd} {k a j : Nat} (h : j ≠ 181) (h2 : j ≠ 175) : g_w1 d k a j = d j := by
  unfold g_w1
  rw [x_p_ne h2, x_p_ne h]
theorem g_w2_11 (d : xd) (k a v : Nat) : g_w2 d k a v 175 11 = nI (g_wl k v) := by
  unfold g_w2 g_wl
  split <;> rw [g_w1_11]
theorem g_w2_out {d : xd} {k a v j : Nat} (h : j ≠ 181) (h2 : j ≠ 175) : g_w2 d k a v j = d j := by
  unfold g_w2
  split <;> simp only [g_w1_out h h2]
set_option maxHeartbeats 1000000 in
set_option maxRecDepth 100000 in
theorem c_M_writes (l : Launch) (G : xG) (d : xd) (k a : Nat) (hk : d 175 11 = nI k) (hk4 : k < 40) (ha : a < 65536) : x_M G l yX12_writes wsX12_writes 1 0 0 [.ref (x_b G + 175), .int (nI a)] d none (g_w1 d k a) := by
  have iX12 : ∀ w ∈ u_ws RX12 TX12 16, w ∈ wsX12_writes := by decide +kernel
  refine x_start (cc := cX12_writes) (maxL := 2) (ret := none) (own := RX12) (by decide) rfl rfl (Nat.le_of_ble_eq_true rfl) (lst := [(0, .ref (x_b G + 175)), (1, .int (nI a))]) rfl ?_
  intro p e s m args below meth c C hr hlocks
  refine a_aload_n C dX12_writes_0 0 rfl ?_
  refine a_getR C (k := 175) iX12 x_k175 rfl (j := 10) rfl (by decide) (by decide +kernel) dX12_writes_1 ?_
  refine a_aload_n C dX12_writes_4 0 rfl ?_
  refine a_getI C (k := 175) iX12 x_k175 rfl (j := 11) rfl (by decide) (by decide +kernel) dX12_writes_5 ?_
  refine a_top (y := (nI k)) hk ?_
  refine a_iload_n C dX12_writes_8 1 rfl ?_
  refine a_i2c C dX12_writes_9 (v := (nI a)) (x_chr ha) ?_
  refine a_castN C (k := 181) x_k181 (i := k) rfl (by omega) (by first | decide | omega) (v := (nI a)) (x_chn ha) dX12_writes_10 ?_
  refine a_aload_n C dX12_writes_11 0 rfl ?_
  refine a_dup C dX12_writes_12 rfl ?_
  refine a_getI C (k := 175) iX12 x_k175 rfl (j := 11) rfl (by decide) (by decide +kernel) dX12_writes_13 ?_
  refine a_top (y := (d 175 11)) (by first | rw [x_p_ne (by omega)] | rfl) ?_
  refine a_top (y := (nI k)) hk ?_
  refine a_iconst C dX12_writes_16 (v := 1) (by decide) ?_
  refine a_iadd C dX12_writes_17 ?_
  refine a_top (y := (nI (k + 1))) (nI_1 k) ?_
  refine a_putI C (k := 175) iX12 tyX12_ok nmX12 x_k175 rfl (j := 11) rfl (by decide) (by decide +kernel) rfl (ty := .int) (by decide +kernel) rfl rfl dX12_writes_18 ?_
  exact a_vret C hlocks hr dX12_writes_21 rfl

set_option maxHeartbeats 1000000 in
set_option maxRecDepth 100000 in
theorem c_M_writesAfter_1 (l : Launch) (G : xG) (d : xd) (k a v : Nat) (hk : d 175 11 = nI k) (hk4 : k < 30) (ha : a < 1000) (hv : v < 10) : x_M G l yX12_writesAfter wsX12_writesAfter 2 0 0 [.ref (x_b G + 175), .int (nI a), .int (nI v)] d none (g_w2 d k a v) := by
  refine x_start (cc := cX12_writesAfter) (maxL := 3) (ret := none) (own := RX12) (by decide) rfl rfl (Nat.le_of_ble_eq_true rfl) (lst := [(0, .ref (x_b G + 175)), (1, .int (nI a)), (2, .int (nI v))]) rfl ?_
  intro p e s m args below meth c C hr hlocks
  refine a_aload_n C dX12_writesAfter_0 0 rfl ?_
  refine a_iload_n C dX12_writesAfter_1 1 rfl ?_
  refine a_callV C (k := 175) (As := [.int (nI a)]) (rest := []) (c_M_writes l G d k (a) hk (by omega) (by omega)) (cwV 1 C.1.2.2.2.2 gX12_writesAfter_X12_writes rfl rfl rfl (by decide +kernel) ⟨Nat.le_of_ble_eq_true rfl, Nat.le_of_ble_eq_true rfl⟩) x_k175 (q := (RX12, TX12, 16)) rfl rfl rfl rfl (Nat.le_of_ble_eq_true rfl) dX12_writesAfter_2 ⟨Nat.le_of_ble_eq_true rfl, Nat.le_of_ble_eq_true rfl⟩ ?_
  refine a_iload_n C dX12_writesAfter_5 2 rfl ?_
  refine a_bipush C dX12_writesAfter_6 (v := 9) (by decide) ?_
  refine a_icmp_le C dX12_writesAfter_8 (tgt := 22) (by decide) (fun h8 => ?_) (fun h => False.elim (h ((nI_leI (b := 9) (by omega) (by omega)).mpr (by omega))))
  refine a_aload_n C dX12_writesAfter_22 0 rfl ?_
  refine a_bipush C dX12_writesAfter_23 (v := 48) (by decide) ?_
  refine a_iload_n C dX12_writesAfter_25 2 rfl ?_
  refine a_bipush C dX12_writesAfter_26 (v := 10) (by decide) ?_
  refine a_irem C dX12_writesAfter_28 (by decide) ?_
  refine a_top (y := (nI v)) ((pk_rem (a := v) (d := 10) (by omega) (by omega) (by omega)).trans (congrArg nI (Nat.mod_eq_of_lt hv))) ?_
  refine a_iadd C dX12_writesAfter_29 ?_
  refine a_top (y := (nI (48 + v))) (nI_add 48 v) ?_
  refine a_callV C (k := 175) (As := [.int (nI (48 + v))]) (rest := []) (c_M_writes l G (g_w1 d k (a)) (k + 1) (48 + v) (g_w1_11 _ _ _) (by omega) (by omega)) (cwV 1 C.1.2.2.2.2 gX12_writesAfter_X12_writes rfl rfl rfl (by decide +kernel) ⟨Nat.le_of_ble_eq_true rfl, Nat.le_of_ble_eq_true rfl⟩) x_k175 (q := (RX12, TX12, 16)) rfl rfl rfl rfl (Nat.le_of_ble_eq_true rfl) dX12_writesAfter_30 ⟨Nat.le_of_ble_eq_true rfl, Nat.le_of_ble_eq_true rfl⟩ ?_
  exact a_vret C hlocks hr dX12_writesAfter_33 (by unfold g_w2; rw [if_pos hv])

set_option maxHeartbeats 1000000 in
set_option maxRecDepth 100000 in
theorem c_M_writesAfter_2 (l : Launch) (G : xG) (d : xd) (k a v : Nat) (hk : d 175 11 = nI k) (hk4 : k < 30) (ha : a < 1000) (hv : ¬ v < 10) (hv9 : v < 100) : x_M G l yX12_writesAfter wsX12_writesAfter 2 0 0 [.ref (x_b G + 175), .int (nI a), .int (nI v)] d none (g_w2 d k a v) := by
  refine x_start (cc := cX12_writesAfter) (maxL := 3) (ret := none) (own := RX12) (by decide) rfl rfl (Nat.le_of_ble_eq_true rfl) (lst := [(0, .ref (x_b G + 175)), (1, .int (nI a)), (2, .int (nI v))]) rfl ?_
  intro p e s m args below meth c C hr hlocks
  refine a_aload_n C dX12_writesAfter_0 0 rfl ?_
  refine a_iload_n C dX12_writesAfter_1 1 rfl ?_
  refine a_callV C (k := 175) (As := [.int (nI a)]) (rest := []) (c_M_writes l G d k (a) hk (by omega) (by omega)) (cwV 1 C.1.2.2.2.2 gX12_writesAfter_X12_writes rfl rfl rfl (by decide +kernel) ⟨Nat.le_of_ble_eq_true rfl, Nat.le_of_ble_eq_true rfl⟩) x_k175 (q := (RX12, TX12, 16)) rfl rfl rfl rfl (Nat.le_of_ble_eq_true rfl) dX12_writesAfter_2 ⟨Nat.le_of_ble_eq_true rfl, Nat.le_of_ble_eq_true rfl⟩ ?_
  refine a_iload_n C dX12_writesAfter_5 2 rfl ?_
  refine a_bipush C dX12_writesAfter_6 (v := 9) (by decide) ?_
  refine a_icmp_le C dX12_writesAfter_8 (tgt := 22) (by decide) (fun h => False.elim (absurd ((nI_leI (b := 9) (by omega) (by omega)).mp h) (by omega))) (fun h8 => ?_)
  refine a_aload_n C dX12_writesAfter_11 0 rfl ?_
  refine a_bipush C dX12_writesAfter_12 (v := 48) (by decide) ?_
  refine a_iload_n C dX12_writesAfter_14 2 rfl ?_
  refine a_bipush C dX12_writesAfter_15 (v := 10) (by decide) ?_
  refine a_idiv C dX12_writesAfter_17 (by decide) ?_
  refine a_top (y := (nI (v / 10))) (pk_div (a := v) (d := 10) (by omega) (by omega) (by omega)) ?_
  refine a_iadd C dX12_writesAfter_18 ?_
  refine a_top (y := (nI (48 + v / 10))) (nI_add 48 (v / 10)) ?_
  refine a_callV C (k := 175) (As := [.int (nI (48 + v / 10))]) (rest := []) (c_M_writes l G (g_w1 d k (a)) (k + 1) (48 + v / 10) (g_w1_11 _ _ _) (by omega) (by omega)) (cwV 1 C.1.2.2.2.2 gX12_writesAfter_X12_writes rfl rfl rfl (by decide +kernel) ⟨Nat.le_of_ble_eq_true rfl, Nat.le_of_ble_eq_true rfl⟩) x_k175 (q := (RX12, TX12, 16)) rfl rfl rfl rfl (Nat.le_of_ble_eq_true rfl) dX12_writesAfter_19 ⟨Nat.le_of_ble_eq_true rfl, Nat.le_of_ble_eq_true rfl⟩ ?_
  refine a_aload_n C dX12_writesAfter_22 0 rfl ?_
  refine a_bipush C dX12_writesAfter_23 (v := 48) (by decide) ?_
  refine a_iload_n C dX12_writesAfter_25 2 rfl ?_
  refine a_bipush C dX12_writesAfter_26 (v := 10) (by decide) ?_
  refine a_irem C dX12_writesAfter_28 (by decide) ?_
  refine a_top (y := (nI (v % 10))) (pk_rem (a := v) (d := 10) (by omega) (by omega) (by omega)) ?_
  refine a_iadd C dX12_writesAfter_29 ?_
  refine a_top (y := (nI (48 + v % 10))) (nI_add 48 (v % 10)) ?_
  refine a_callV C (k := 175) (As := [.int (nI (48 + v % 10))]) (rest := []) (c_M_writes l G (g_w1 (g_w1 d k (a)) (k + 1) (48 + v / 10)) (k + 2) (48 + v % 10) (g_w1_11 _ _ _) (by omega) (by omega)) (cwV 1 C.1.2.2.2.2 gX12_writesAfter_X12_writes rfl rfl rfl (by decide +kernel) ⟨Nat.le_of_ble_eq_true rfl, Nat.le_of_ble_eq_true rfl⟩) x_k175 (q := (RX12, TX12, 16)) rfl rfl rfl rfl (Nat.le_of_ble_eq_true rfl) dX12_writesAfter_30 ⟨Nat.le_of_ble_eq_true rfl, Nat.le_of_ble_eq_true rfl⟩ ?_
  exact a_vret C hlocks hr dX12_writesAfter_33 (by unfold g_w2; rw [if_neg hv])

theorem c_M_writesAfter (l : Launch) (G : xG) (d : xd) (k a v : Nat) (hk : d 175 11 = nI k) (hk4 : k < 30) (ha : a < 1000) (hv : v < 100) : x_M G l yX12_writesAfter wsX12_writesAfter 2 0 0 [.ref (x_b G + 175), .int (nI a), .int (nI v)] d none (g_w2 d k a v) := by
  by_cases h : v < 10
  · exact c_M_writesAfter_1 l G d k a v hk hk4 ha h
  · exact c_M_writesAfter_2 l G d k a v hk hk4 ha h hv
theorem g_wl_le (k v : Nat) : k + 2 ≤ g_wl k v ∧ g_wl k v ≤ k + 3 := by
  unfold g_wl
  split <;> omega
set_option maxHeartbeats 1000000 in
set_option maxRecDepth 100000 in
theorem c_M_writeLamp_1 (l : Launch) (G : xG) (d : xd) (x : Int32) (n : Nat) (hn : d 176 0 = nI n) (h8 : n ≤ 8) (hx : ¬ (0 ≤ x ∧ x < nI n)) : x_M G l yX12_writeLamp wsX12_writeLamp 3 0 0 [.ref (x_b G + 175), .int x] d (some (.int 0)) (g_th d 1) := by
  refine x_start (cc := cX12_writeLamp) (maxL := 2) (ret := (some .int)) (own := RX12) (by decide) rfl rfl (Nat.le_of_ble_eq_true rfl) (lst := [(0, .ref (x_b G + 175)), (1, .int x)]) rfl ?_
  intro p e s m args below meth c C hr hlocks
  refine a_aload_n C dX12_writeLamp_0 0 rfl ?_
  refine a_iload_n C dX12_writeLamp_1 1 rfl ?_
  refine a_callV C (k := 175) (As := [.int x]) (rest := []) (c_M_isLamp_f l G d x n hn h8 hx) (cwV 1 C.1.2.2.2.2 gX12_writeLamp_X12_isLamp rfl rfl rfl (by decide +kernel) ⟨Nat.le_of_ble_eq_true rfl, Nat.le_of_ble_eq_true rfl⟩) x_k175 (q := (RX12, TX12, 16)) rfl rfl rfl rfl (Nat.le_of_ble_eq_true rfl) dX12_writeLamp_2 ⟨Nat.le_of_ble_eq_true rfl, Nat.le_of_ble_eq_true rfl⟩ ?_
  refine a_if_ne C dX12_writeLamp_5 (tgt := 14) (by decide) (fun h => absurd h (by decide)) (fun _ => ?_)
  refine a_aload_n C dX12_writeLamp_8 0 rfl ?_
  refine a_iconst C dX12_writeLamp_9 (v := 1) (by decide) ?_
  refine a_callV C (k := 175) (As := [.int 1]) (rest := []) (c_M_fails l G d 1) (cwV 1 C.1.2.2.2.2 gX12_writeLamp_X12_fails rfl rfl rfl (by decide +kernel) ⟨Nat.le_of_ble_eq_true rfl, Nat.le_of_ble_eq_true rfl⟩) x_k175 (q := (RX12, TX12, 16)) rfl rfl rfl rfl (Nat.le_of_ble_eq_true rfl) dX12_writeLamp_10 ⟨Nat.le_of_ble_eq_true rfl, Nat.le_of_ble_eq_true rfl⟩ ?_
  exact a_iret C hlocks hr dX12_writeLamp_13 rfl rfl

def g_wd (d : xd) (i a b v w : Nat) : xd := g_w2 (g_w2 (g_w2 (g_w2 (g_w1 (x_p d 175 11 0) 0 (48 + i)) 1 58 a) (g_wl 1 a) 42 b) (g_wl (g_wl 1 a) b) 111 v) (g_wl (g_wl (g_wl 1 a) b) v) 119 w
def g_wk (a b v w : Nat) : Nat := g_wl (g_wl (g_wl (g_wl 1 a) b) v) w
def g_we (d : xd) (i a b v w : Nat) (off : Bool) : xd := if off = true then g_w1 (g_wd d i a b v w) (g_wk a b v w) 33 else g_wd d i a b v w
def g_wn (a b v w : Nat) (off : Bool) : Nat := if off = true then g_wk a b v w + 1 else g_wk a b v w
set_option maxHeartbeats 1000000 in
set_option maxRecDepth 100000 in
theorem c_M_writeLamp_on (l : Launch) (G : xG) (d : xd) (i n : Nat) (hn : d 176 0 = nI n) (h8 : n ≤ 8) (hi : i < n) (a b v w : Nat) (ha : d 176 (6 + i) = nI a) (hb : d 176 (22 + i) = nI b) (hv : d 176 (38 + i) = nI v) (hw : d 176 (46 + i) = nI w) (ha1 : a < 100) (hb1 : b < 100) (hv1 : v < 100) (hw1 : w < 100) (hoff : ¬ d 176 (30 + i) = 1) : x_M G l yX12_writeLamp wsX12_writeLamp 3 0 0 [.ref (x_b G + 175), .int (nI i)] d (some (.int (nI (g_wn a b v w false)))) (g_th (g_we d i a b v w false) 0) := by
  have q1 := g_wl_le 1 a
  have q2 := g_wl_le (g_wl 1 a) b
  have q3 := g_wl_le (g_wl (g_wl 1 a) b) v
  have q4 := g_wl_le (g_wl (g_wl (g_wl 1 a) b) v) w
  have iX12 : ∀ w ∈ u_ws RX12 TX12 16, w ∈ wsX12_writeLamp := by decide +kernel
  refine x_start (cc := cX12_writeLamp) (maxL := 2) (ret := (some .int)) (own := RX12) (by decide) rfl rfl (Nat.le_of_ble_eq_true rfl) (lst := [(0, .ref (x_b G + 175)), (1, .int (nI i))]) rfl ?_
  intro p e s m args below meth c C hr hlocks
  refine a_aload_n C dX12_writeLamp_0 0 rfl ?_
  refine a_iload_n C dX12_writeLamp_1 1 rfl ?_
  refine a_callV C (k := 175) (As := [.int (nI i)]) (rest := []) (c_M_isLamp_t l G d i n hn h8 hi) (cwV 1 C.1.2.2.2.2 gX12_writeLamp_X12_isLamp rfl rfl rfl (by decide +kernel) ⟨Nat.le_of_ble_eq_true rfl, Nat.le_of_ble_eq_true rfl⟩) x_k175 (q := (RX12, TX12, 16)) rfl rfl rfl rfl (Nat.le_of_ble_eq_true rfl) dX12_writeLamp_2 ⟨Nat.le_of_ble_eq_true rfl, Nat.le_of_ble_eq_true rfl⟩ ?_
  refine a_if_ne C dX12_writeLamp_5 (tgt := 14) (by decide) (fun _ => ?_) (fun h => absurd h (by decide))
  refine a_aload_n C dX12_writeLamp_14 0 rfl ?_
  refine a_iconst C dX12_writeLamp_15 (v := 0) (by decide) ?_
  refine a_putI C (k := 175) iX12 tyX12_ok nmX12 x_k175 rfl (j := 11) rfl (by decide) (by decide +kernel) rfl (ty := .int) (by decide +kernel) rfl rfl dX12_writeLamp_16 ?_
  refine a_aload_n C dX12_writeLamp_19 0 rfl ?_
  refine a_bipush C dX12_writeLamp_20 (v := 48) (by decide) ?_
  refine a_iload_n C dX12_writeLamp_22 1 rfl ?_
  refine a_iadd C dX12_writeLamp_23 ?_
  refine a_top (y := (nI (48 + i))) (nI_add 48 i) ?_
  refine a_callV C (k := 175) (As := [.int (nI (48 + i))]) (rest := []) (c_M_writes l G (x_p d 175 11 0) 0 (48 + i) rfl (by omega) (by omega)) (cwV 1 C.1.2.2.2.2 gX12_writeLamp_X12_writes rfl rfl rfl (by decide +kernel) ⟨Nat.le_of_ble_eq_true rfl, Nat.le_of_ble_eq_true rfl⟩) x_k175 (q := (RX12, TX12, 16)) rfl rfl rfl rfl (Nat.le_of_ble_eq_true rfl) dX12_writeLamp_24 ⟨Nat.le_of_ble_eq_true rfl, Nat.le_of_ble_eq_true rfl⟩ ?_
  refine a_aload_n C dX12_writeLamp_27 0 rfl ?_
  refine a_bipush C dX12_writeLamp_28 (v := 58) (by decide) ?_
  refine a_aload_n C dX12_writeLamp_30 0 rfl ?_
  refine a_getR C (k := 175) iX12 x_k175 rfl (j := 0) rfl (by decide) (by decide +kernel) dX12_writeLamp_31 ?_
  refine a_bipush C dX12_writeLamp_34 (v := 6) (by decide) ?_
  refine a_iload_n C dX12_writeLamp_36 1 rfl ?_
  refine a_iadd C dX12_writeLamp_37 ?_
  refine a_ialdN C (k := 176) x_k176 (i := 6 + i) (x_add2 (a := 6) (b := i) rfl rfl) (by omega) (by first | decide | omega) dX12_writeLamp_38 ?_
  refine a_top (y := (nI a)) (by rw [g_w1_out (by omega) (by omega), x_p_ne (by omega)]; exact ha) ?_
  refine a_callV C (k := 175) (As := [.int 58, .int (nI a)]) (rest := []) (c_M_writesAfter l G (g_w1 (x_p d 175 11 0) 0 (48 + i)) 1 58 a (g_w1_11 _ _ _) (by omega) (by omega) ha1) (cwV 2 C.1.2.2.2.2 gX12_writeLamp_X12_writesAfter rfl rfl rfl (by decide +kernel) ⟨Nat.le_of_ble_eq_true rfl, Nat.le_of_ble_eq_true rfl⟩) x_k175 (q := (RX12, TX12, 16)) rfl rfl rfl rfl (Nat.le_of_ble_eq_true rfl) dX12_writeLamp_39 ⟨Nat.le_of_ble_eq_true rfl, Nat.le_of_ble_eq_true rfl⟩ ?_
  refine a_aload_n C dX12_writeLamp_42 0 rfl ?_
  refine a_bipush C dX12_writeLamp_43 (v := 42) (by decide) ?_
  refine a_aload_n C dX12_writeLamp_45 0 rfl ?_
  refine a_getR C (k := 175) iX12 x_k175 rfl (j := 0) rfl (by decide) (by decide +kernel) dX12_writeLamp_46 ?_
  refine a_bipush C dX12_writeLamp_49 (v := 22) (by decide) ?_
  refine a_iload_n C dX12_writeLamp_51 1 rfl ?_
  refine a_iadd C dX12_writeLamp_52 ?_
  refine a_ialdN C (k := 176) x_k176 (i := 22 + i) (x_add2 (a := 22) (b := i) rfl rfl) (by omega) (by first | decide | omega) dX12_writeLamp_53 ?_
  refine a_top (y := (nI b)) (by rw [g_w2_out (by omega) (by omega), g_w1_out (by omega) (by omega), x_p_ne (by omega)]; exact hb) ?_
  refine a_callV C (k := 175) (As := [.int 42, .int (nI b)]) (rest := []) (c_M_writesAfter l G (g_w2 (g_w1 (x_p d 175 11 0) 0 (48 + i)) 1 58 a) (g_wl 1 a) 42 b (g_w2_11 _ _ _ _) (by omega) (by omega) hb1) (cwV 2 C.1.2.2.2.2 gX12_writeLamp_X12_writesAfter rfl rfl rfl (by decide +kernel) ⟨Nat.le_of_ble_eq_true rfl, Nat.le_of_ble_eq_true rfl⟩) x_k175 (q := (RX12, TX12, 16)) rfl rfl rfl rfl (Nat.le_of_ble_eq_true rfl) dX12_writeLamp_54 ⟨Nat.le_of_ble_eq_true rfl, Nat.le_of_ble_eq_true rfl⟩ ?_
  refine a_aload_n C dX12_writeLamp_57 0 rfl ?_
  refine a_bipush C dX12_writeLamp_58 (v := 111) (by decide) ?_
  refine a_aload_n C dX12_writeLamp_60 0 rfl ?_
  refine a_getR C (k := 175) iX12 x_k175 rfl (j := 0) rfl (by decide) (by decide +kernel) dX12_writeLamp_61 ?_
  refine a_bipush C dX12_writeLamp_64 (v := 38) (by decide) ?_
  refine a_iload_n C dX12_writeLamp_66 1 rfl ?_
  refine a_iadd C dX12_writeLamp_67 ?_
  refine a_ialdN C (k := 176) x_k176 (i := 38 + i) (x_add2 (a := 38) (b := i) rfl rfl) (by omega) (by first | decide | omega) dX12_writeLamp_68 ?_
  refine a_top (y := (nI v)) (by rw [g_w2_out (by omega) (by omega), g_w2_out (by omega) (by omega), g_w1_out (by omega) (by omega), x_p_ne (by omega)]; exact hv) ?_
  refine a_callV C (k := 175) (As := [.int 111, .int (nI v)]) (rest := []) (c_M_writesAfter l G (g_w2 (g_w2 (g_w1 (x_p d 175 11 0) 0 (48 + i)) 1 58 a) (g_wl 1 a) 42 b) (g_wl (g_wl 1 a) b) 111 v (g_w2_11 _ _ _ _) (by omega) (by omega) hv1) (cwV 2 C.1.2.2.2.2 gX12_writeLamp_X12_writesAfter rfl rfl rfl (by decide +kernel) ⟨Nat.le_of_ble_eq_true rfl, Nat.le_of_ble_eq_true rfl⟩) x_k175 (q := (RX12, TX12, 16)) rfl rfl rfl rfl (Nat.le_of_ble_eq_true rfl) dX12_writeLamp_69 ⟨Nat.le_of_ble_eq_true rfl, Nat.le_of_ble_eq_true rfl⟩ ?_
  refine a_aload_n C dX12_writeLamp_72 0 rfl ?_
  refine a_bipush C dX12_writeLamp_73 (v := 119) (by decide) ?_
  refine a_aload_n C dX12_writeLamp_75 0 rfl ?_
  refine a_getR C (k := 175) iX12 x_k175 rfl (j := 0) rfl (by decide) (by decide +kernel) dX12_writeLamp_76 ?_
  refine a_bipush C dX12_writeLamp_79 (v := 46) (by decide) ?_
  refine a_iload_n C dX12_writeLamp_81 1 rfl ?_
  refine a_iadd C dX12_writeLamp_82 ?_
  refine a_ialdN C (k := 176) x_k176 (i := 46 + i) (x_add2 (a := 46) (b := i) rfl rfl) (by omega) (by first | decide | omega) dX12_writeLamp_83 ?_
  refine a_top (y := (nI w)) (by rw [g_w2_out (by omega) (by omega), g_w2_out (by omega) (by omega), g_w2_out (by omega) (by omega), g_w1_out (by omega) (by omega), x_p_ne (by omega)]; exact hw) ?_
  refine a_callV C (k := 175) (As := [.int 119, .int (nI w)]) (rest := []) (c_M_writesAfter l G (g_w2 (g_w2 (g_w2 (g_w1 (x_p d 175 11 0) 0 (48 + i)) 1 58 a) (g_wl 1 a) 42 b) (g_wl (g_wl 1 a) b) 111 v) (g_wl (g_wl (g_wl 1 a) b) v) 119 w (g_w2_11 _ _ _ _) (by omega) (by omega) hw1) (cwV 2 C.1.2.2.2.2 gX12_writeLamp_X12_writesAfter rfl rfl rfl (by decide +kernel) ⟨Nat.le_of_ble_eq_true rfl, Nat.le_of_ble_eq_true rfl⟩) x_k175 (q := (RX12, TX12, 16)) rfl rfl rfl rfl (Nat.le_of_ble_eq_true rfl) dX12_writeLamp_84 ⟨Nat.le_of_ble_eq_true rfl, Nat.le_of_ble_eq_true rfl⟩ ?_
  refine a_aload_n C dX12_writeLamp_87 0 rfl ?_
  refine a_getR C (k := 175) iX12 x_k175 rfl (j := 0) rfl (by decide) (by decide +kernel) dX12_writeLamp_88 ?_
  refine a_bipush C dX12_writeLamp_91 (v := 30) (by decide) ?_
  refine a_iload_n C dX12_writeLamp_93 1 rfl ?_
  refine a_iadd C dX12_writeLamp_94 ?_
  refine a_ialdN C (k := 176) x_k176 (i := 30 + i) (x_add2 (a := 30) (b := i) rfl rfl) (by omega) (by first | decide | omega) dX12_writeLamp_95 ?_
  refine a_top (y := (d 176 (30 + i))) (by rw [g_w2_out (by omega) (by omega), g_w2_out (by omega) (by omega), g_w2_out (by omega) (by omega), g_w2_out (by omega) (by omega), g_w1_out (by omega) (by omega), x_p_ne (by omega)]) ?_
  refine a_iconst C dX12_writeLamp_96 (v := 1) (by decide) ?_
  refine a_icmp_ne C dX12_writeLamp_97 (tgt := 106) (by decide) (fun h97 => ?_) (fun h => False.elim (hoff h))
  refine a_aload_n C dX12_writeLamp_106 0 rfl ?_
  refine a_aload_n C dX12_writeLamp_107 0 rfl ?_
  refine a_getI C (k := 175) iX12 x_k175 rfl (j := 11) rfl (by decide) (by decide +kernel) dX12_writeLamp_108 ?_
  refine a_top (y := (nI (g_wn a b v w false))) (by rw [g_w2_11]; rfl) ?_
  refine a_callV C (k := 175) (As := [.int (nI (g_wn a b v w false))]) (rest := []) (c_M_done l G (g_w2 (g_w2 (g_w2 (g_w2 (g_w1 (x_p d 175 11 0) 0 (48 + i)) 1 58 a) (g_wl 1 a) 42 b) (g_wl (g_wl 1 a) b) 111 v) (g_wl (g_wl (g_wl 1 a) b) v) 119 w) (nI (g_wn a b v w false))) (cwV 1 C.1.2.2.2.2 gX12_writeLamp_X12_done rfl rfl rfl (by decide +kernel) ⟨Nat.le_of_ble_eq_true rfl, Nat.le_of_ble_eq_true rfl⟩) x_k175 (q := (RX12, TX12, 16)) rfl rfl rfl rfl (Nat.le_of_ble_eq_true rfl) dX12_writeLamp_111 ⟨Nat.le_of_ble_eq_true rfl, Nat.le_of_ble_eq_true rfl⟩ ?_
  exact a_iret C hlocks hr dX12_writeLamp_114 rfl rfl

set_option maxHeartbeats 1000000 in
set_option maxRecDepth 100000 in
theorem c_M_writeLamp_off (l : Launch) (G : xG) (d : xd) (i n : Nat) (hn : d 176 0 = nI n) (h8 : n ≤ 8) (hi : i < n) (a b v w : Nat) (ha : d 176 (6 + i) = nI a) (hb : d 176 (22 + i) = nI b) (hv : d 176 (38 + i) = nI v) (hw : d 176 (46 + i) = nI w) (ha1 : a < 100) (hb1 : b < 100) (hv1 : v < 100) (hw1 : w < 100) (hoff : d 176 (30 + i) = 1) : x_M G l yX12_writeLamp wsX12_writeLamp 3 0 0 [.ref (x_b G + 175), .int (nI i)] d (some (.int (nI (g_wn a b v w true)))) (g_th (g_we d i a b v w true) 0) := by
  have q1 := g_wl_le 1 a
  have q2 := g_wl_le (g_wl 1 a) b
  have q3 := g_wl_le (g_wl (g_wl 1 a) b) v
  have q4 := g_wl_le (g_wl (g_wl (g_wl 1 a) b) v) w
  have iX12 : ∀ w ∈ u_ws RX12 TX12 16, w ∈ wsX12_writeLamp := by decide +kernel
  refine x_start (cc := cX12_writeLamp) (maxL := 2) (ret := (some .int)) (own := RX12) (by decide) rfl rfl (Nat.le_of_ble_eq_true rfl) (lst := [(0, .ref (x_b G + 175)), (1, .int (nI i))]) rfl ?_
  intro p e s m args below meth c C hr hlocks
  refine a_aload_n C dX12_writeLamp_0 0 rfl ?_
  refine a_iload_n C dX12_writeLamp_1 1 rfl ?_
  refine a_callV C (k := 175) (As := [.int (nI i)]) (rest := []) (c_M_isLamp_t l G d i n hn h8 hi) (cwV 1 C.1.2.2.2.2 gX12_writeLamp_X12_isLamp rfl rfl rfl (by decide +kernel) ⟨Nat.le_of_ble_eq_true rfl, Nat.le_of_ble_eq_true rfl⟩) x_k175 (q := (RX12, TX12, 16)) rfl rfl rfl rfl (Nat.le_of_ble_eq_true rfl) dX12_writeLamp_2 ⟨Nat.le_of_ble_eq_true rfl, Nat.le_of_ble_eq_true rfl⟩ ?_
  refine a_if_ne C dX12_writeLamp_5 (tgt := 14) (by decide) (fun _ => ?_) (fun h => absurd h (by decide))
  refine a_aload_n C dX12_writeLamp_14 0 rfl ?_
  refine a_iconst C dX12_writeLamp_15 (v := 0) (by decide) ?_
  refine a_putI C (k := 175) iX12 tyX12_ok nmX12 x_k175 rfl (j := 11) rfl (by decide) (by decide +kernel) rfl (ty := .int) (by decide +kernel) rfl rfl dX12_writeLamp_16 ?_
  refine a_aload_n C dX12_writeLamp_19 0 rfl ?_
  refine a_bipush C dX12_writeLamp_20 (v := 48) (by decide) ?_
  refine a_iload_n C dX12_writeLamp_22 1 rfl ?_
  refine a_iadd C dX12_writeLamp_23 ?_
  refine a_top (y := (nI (48 + i))) (nI_add 48 i) ?_
  refine a_callV C (k := 175) (As := [.int (nI (48 + i))]) (rest := []) (c_M_writes l G (x_p d 175 11 0) 0 (48 + i) rfl (by omega) (by omega)) (cwV 1 C.1.2.2.2.2 gX12_writeLamp_X12_writes rfl rfl rfl (by decide +kernel) ⟨Nat.le_of_ble_eq_true rfl, Nat.le_of_ble_eq_true rfl⟩) x_k175 (q := (RX12, TX12, 16)) rfl rfl rfl rfl (Nat.le_of_ble_eq_true rfl) dX12_writeLamp_24 ⟨Nat.le_of_ble_eq_true rfl, Nat.le_of_ble_eq_true rfl⟩ ?_
  refine a_aload_n C dX12_writeLamp_27 0 rfl ?_
  refine a_bipush C dX12_writeLamp_28 (v := 58) (by decide) ?_
  refine a_aload_n C dX12_writeLamp_30 0 rfl ?_
  refine a_getR C (k := 175) iX12 x_k175 rfl (j := 0) rfl (by decide) (by decide +kernel) dX12_writeLamp_31 ?_
  refine a_bipush C dX12_writeLamp_34 (v := 6) (by decide) ?_
  refine a_iload_n C dX12_writeLamp_36 1 rfl ?_
  refine a_iadd C dX12_writeLamp_37 ?_
  refine a_ialdN C (k := 176) x_k176 (i := 6 + i) (x_add2 (a := 6) (b := i) rfl rfl) (by omega) (by first | decide | omega) dX12_writeLamp_38 ?_
  refine a_top (y := (nI a)) (by rw [g_w1_out (by omega) (by omega), x_p_ne (by omega)]; exact ha) ?_
  refine a_callV C (k := 175) (As := [.int 58, .int (nI a)]) (rest := []) (c_M_writesAfter l G (g_w1 (x_p d 175 11 0) 0 (48 + i)) 1 58 a (g_w1_11 _ _ _) (by omega) (by omega) ha1) (cwV 2 C.1.2.2.2.2 gX12_writeLamp_X12_writesAfter rfl rfl rfl (by decide +kernel) ⟨Nat.le_of_ble_eq_true rfl, Nat.le_of_ble_eq_true rfl⟩) x_k175 (q := (RX12, TX12, 16)) rfl rfl rfl rfl (Nat.le_of_ble_eq_true rfl) dX12_writeLamp_39 ⟨Nat.le_of_ble_eq_true rfl, Nat.le_of_ble_eq_true rfl⟩ ?_
  refine a_aload_n C dX12_writeLamp_42 0 rfl ?_
  refine a_bipush C dX12_writeLamp_43 (v := 42) (by decide) ?_
  refine a_aload_n C dX12_writeLamp_45 0 rfl ?_
  refine a_getR C (k := 175) iX12 x_k175 rfl (j := 0) rfl (by decide) (by decide +kernel) dX12_writeLamp_46 ?_
  refine a_bipush C dX12_writeLamp_49 (v := 22) (by decide) ?_
  refine a_iload_n C dX12_writeLamp_51 1 rfl ?_
  refine a_iadd C dX12_writeLamp_52 ?_
  refine a_ialdN C (k := 176) x_k176 (i := 22 + i) (x_add2 (a := 22) (b := i) rfl rfl) (by omega) (by first | decide | omega) dX12_writeLamp_53 ?_
  refine a_top (y := (nI b)) (by rw [g_w2_out (by omega) (by omega), g_w1_out (by omega) (by omega), x_p_ne (by omega)]; exact hb) ?_
  refine a_callV C (k := 175) (As := [.int 42, .int (nI b)]) (rest := []) (c_M_writesAfter l G (g_w2 (g_w1 (x_p d 175 11 0) 0 (48 + i)) 1 58 a) (g_wl 1 a) 42 b (g_w2_11 _ _ _ _) (by omega) (by omega) hb1) (cwV 2 C.1.2.2.2.2 gX12_writeLamp_X12_writesAfter rfl rfl rfl (by decide +kernel) ⟨Nat.le_of_ble_eq_true rfl, Nat.le_of_ble_eq_true rfl⟩) x_k175 (q := (RX12, TX12, 16)) rfl rfl rfl rfl (Nat.le_of_ble_eq_true rfl) dX12_writeLamp_54 ⟨Nat.le_of_ble_eq_true rfl, Nat.le_of_ble_eq_true rfl⟩ ?_
  refine a_aload_n C dX12_writeLamp_57 0 rfl ?_
  refine a_bipush C dX12_writeLamp_58 (v := 111) (by decide) ?_
  refine a_aload_n C dX12_writeLamp_60 0 rfl ?_
  refine a_getR C (k := 175) iX12 x_k175 rfl (j := 0) rfl (by decide) (by decide +kernel) dX12_writeLamp_61 ?_
  refine a_bipush C dX12_writeLamp_64 (v := 38) (by decide) ?_
  refine a_iload_n C dX12_writeLamp_66 1 rfl ?_
  refine a_iadd C dX12_writeLamp_67 ?_
  refine a_ialdN C (k := 176) x_k176 (i := 38 + i) (x_add2 (a := 38) (b := i) rfl rfl) (by omega) (by first | decide | omega) dX12_writeLamp_68 ?_
  refine a_top (y := (nI v)) (by rw [g_w2_out (by omega) (by omega), g_w2_out (by omega) (by omega), g_w1_out (by omega) (by omega), x_p_ne (by omega)]; exact hv) ?_
  refine a_callV C (k := 175) (As := [.int 111, .int (nI v)]) (rest := []) (c_M_writesAfter l G (g_w2 (g_w2 (g_w1 (x_p d 175 11 0) 0 (48 + i)) 1 58 a) (g_wl 1 a) 42 b) (g_wl (g_wl 1 a) b) 111 v (g_w2_11 _ _ _ _) (by omega) (by omega) hv1) (cwV 2 C.1.2.2.2.2 gX12_writeLamp_X12_writesAfter rfl rfl rfl (by decide +kernel) ⟨Nat.le_of_ble_eq_true rfl, Nat.le_of_ble_eq_true rfl⟩) x_k175 (q := (RX12, TX12, 16)) rfl rfl rfl rfl (Nat.le_of_ble_eq_true rfl) dX12_writeLamp_69 ⟨Nat.le_of_ble_eq_true rfl, Nat.le_of_ble_eq_true rfl⟩ ?_
  refine a_aload_n C dX12_writeLamp_72 0 rfl ?_
  refine a_bipush C dX12_writeLamp_73 (v := 119) (by decide) ?_
  refine a_aload_n C dX12_writeLamp_75 0 rfl ?_
  refine a_getR C (k := 175) iX12 x_k175 rfl (j := 0) rfl (by decide) (by decide +kernel) dX12_writeLamp_76 ?_
  refine a_bipush C dX12_writeLamp_79 (v := 46) (by decide) ?_
  refine a_iload_n C dX12_writeLamp_81 1 rfl ?_
  refine a_iadd C dX12_writeLamp_82 ?_
  refine a_ialdN C (k := 176) x_k176 (i := 46 + i) (x_add2 (a := 46) (b := i) rfl rfl) (by omega) (by first | decide | omega) dX12_writeLamp_83 ?_
  refine a_top (y := (nI w)) (by rw [g_w2_out (by omega) (by omega), g_w2_out (by omega) (by omega), g_w2_out (by omega) (by omega), g_w1_out (by omega) (by omega), x_p_ne (by omega)]; exact hw) ?_
  refine a_callV C (k := 175) (As := [.int 119, .int (nI w)]) (rest := []) (c_M_writesAfter l G (g_w2 (g_w2 (g_w2 (g_w1 (x_p d 175 11 0) 0 (48 + i)) 1 58 a) (g_wl 1 a) 42 b) (g_wl (g_wl 1 a) b) 111 v) (g_wl (g_wl (g_wl 1 a) b) v) 119 w (g_w2_11 _ _ _ _) (by omega) (by omega) hw1) (cwV 2 C.1.2.2.2.2 gX12_writeLamp_X12_writesAfter rfl rfl rfl (by decide +kernel) ⟨Nat.le_of_ble_eq_true rfl, Nat.le_of_ble_eq_true rfl⟩) x_k175 (q := (RX12, TX12, 16)) rfl rfl rfl rfl (Nat.le_of_ble_eq_true rfl) dX12_writeLamp_84 ⟨Nat.le_of_ble_eq_true rfl, Nat.le_of_ble_eq_true rfl⟩ ?_
  refine a_aload_n C dX12_writeLamp_87 0 rfl ?_
  refine a_getR C (k := 175) iX12 x_k175 rfl (j := 0) rfl (by decide) (by decide +kernel) dX12_writeLamp_88 ?_
  refine a_bipush C dX12_writeLamp_91 (v := 30) (by decide) ?_
  refine a_iload_n C dX12_writeLamp_93 1 rfl ?_
  refine a_iadd C dX12_writeLamp_94 ?_
  refine a_ialdN C (k := 176) x_k176 (i := 30 + i) (x_add2 (a := 30) (b := i) rfl rfl) (by omega) (by first | decide | omega) dX12_writeLamp_95 ?_
  refine a_top (y := (d 176 (30 + i))) (by rw [g_w2_out (by omega) (by omega), g_w2_out (by omega) (by omega), g_w2_out (by omega) (by omega), g_w2_out (by omega) (by omega), g_w1_out (by omega) (by omega), x_p_ne (by omega)]) ?_
  refine a_iconst C dX12_writeLamp_96 (v := 1) (by decide) ?_
  refine a_icmp_ne C dX12_writeLamp_97 (tgt := 106) (by decide) (fun h => False.elim (h hoff)) (fun h97 => ?_)
  refine a_aload_n C dX12_writeLamp_100 0 rfl ?_
  refine a_bipush C dX12_writeLamp_101 (v := 33) (by decide) ?_
  refine a_callV C (k := 175) (As := [.int 33]) (rest := []) (c_M_writes l G (g_w2 (g_w2 (g_w2 (g_w2 (g_w1 (x_p d 175 11 0) 0 (48 + i)) 1 58 a) (g_wl 1 a) 42 b) (g_wl (g_wl 1 a) b) 111 v) (g_wl (g_wl (g_wl 1 a) b) v) 119 w) (g_wk a b v w) 33 (g_w2_11 _ _ _ _) (by unfold g_wk; omega) (by omega)) (cwV 1 C.1.2.2.2.2 gX12_writeLamp_X12_writes rfl rfl rfl (by decide +kernel) ⟨Nat.le_of_ble_eq_true rfl, Nat.le_of_ble_eq_true rfl⟩) x_k175 (q := (RX12, TX12, 16)) rfl rfl rfl rfl (Nat.le_of_ble_eq_true rfl) dX12_writeLamp_103 ⟨Nat.le_of_ble_eq_true rfl, Nat.le_of_ble_eq_true rfl⟩ ?_
  refine a_aload_n C dX12_writeLamp_106 0 rfl ?_
  refine a_aload_n C dX12_writeLamp_107 0 rfl ?_
  refine a_getI C (k := 175) iX12 x_k175 rfl (j := 11) rfl (by decide) (by decide +kernel) dX12_writeLamp_108 ?_
  refine a_top (y := (nI (g_wn a b v w true))) (by rw [g_w1_11]; rfl) ?_
  refine a_callV C (k := 175) (As := [.int (nI (g_wn a b v w true))]) (rest := []) (c_M_done l G (g_w1 (g_w2 (g_w2 (g_w2 (g_w2 (g_w1 (x_p d 175 11 0) 0 (48 + i)) 1 58 a) (g_wl 1 a) 42 b) (g_wl (g_wl 1 a) b) 111 v) (g_wl (g_wl (g_wl 1 a) b) v) 119 w) (g_wk a b v w) 33) (nI (g_wn a b v w true))) (cwV 1 C.1.2.2.2.2 gX12_writeLamp_X12_done rfl rfl rfl (by decide +kernel) ⟨Nat.le_of_ble_eq_true rfl, Nat.le_of_ble_eq_true rfl⟩) x_k175 (q := (RX12, TX12, 16)) rfl rfl rfl rfl (Nat.le_of_ble_eq_true rfl) dX12_writeLamp_111 ⟨Nat.le_of_ble_eq_true rfl, Nat.le_of_ble_eq_true rfl⟩ ?_
  exact a_iret C hlocks hr dX12_writeLamp_114 rfl rfl

theorem x_cin {x : Int32} {n : Nat} (hn : n < 1000) : (0 ≤ x ∧ x ≤ nI n - 1) ↔ (0 ≤ x ∧ x < nI n) := by rw [x_le_pred hn]
set_option maxHeartbeats 1000000 in
set_option maxRecDepth 100000 in
theorem c_M_lineAt_1 (l : Launch) (G : xG) (d : xd) (x : Int32) (k : Nat) (hk : d 175 11 = nI k) (hk4 : k ≤ 40) (hx : ¬ (0 ≤ x ∧ x < nI k)) : x_M G l yX12_lineAt wsX12_lineAt 2 0 0 [.ref (x_b G + 175), .int x] d (some (.int 0)) (g_th d 1) := by
  have iX12 : ∀ w ∈ u_ws RX12 TX12 16, w ∈ wsX12_lineAt := by decide +kernel
  refine x_start (cc := cX12_lineAt) (maxL := 2) (ret := (some .char)) (own := RX12) (by decide) rfl rfl (Nat.le_of_ble_eq_true rfl) (lst := [(0, .ref (x_b G + 175)), (1, .int x)]) rfl ?_
  intro p e s m args below meth c C hr hlocks
  refine a_aload_n C dX12_lineAt_0 0 rfl ?_
  refine a_iload_n C dX12_lineAt_1 1 rfl ?_
  refine a_iconst C dX12_lineAt_2 (v := 0) (by decide) ?_
  refine a_aload_n C dX12_lineAt_3 0 rfl ?_
  refine a_getI C (k := 175) iX12 x_k175 rfl (j := 11) rfl (by decide) (by decide +kernel) dX12_lineAt_4 ?_
  refine a_top (y := (nI k)) hk ?_
  refine a_iconst C dX12_lineAt_7 (v := 1) (by decide) ?_
  refine a_isub C dX12_lineAt_8 ?_
  refine a_callS C (As := [.int x, .int 0, .int ((nI k) - 1)]) (rest := [.ref (x_b G + 175)]) (c_M_in_f l G d x 0 ((nI k) - 1) (fun z => hx ((x_cin (by omega)).mp z))) (va_cwS 3 C.1.2.2.2.2 gX12_lineAt_X12_in rfl rfl rfl (by decide +kernel) ⟨Nat.le_of_ble_eq_true rfl, Nat.le_of_ble_eq_true rfl⟩) rfl rfl (Nat.le_of_ble_eq_true rfl) dX12_lineAt_9 ⟨Nat.le_of_ble_eq_true rfl, Nat.le_of_ble_eq_true rfl⟩ ?_
  refine a_if_eq C dX12_lineAt_12 (tgt := 19) (by decide) (fun _ => ?_) (fun h => absurd h (by decide))
  refine a_iconst C dX12_lineAt_19 (v := 1) (by decide) ?_
  refine a_putI C (k := 175) iX12 tyX12_ok nmX12 x_k175 rfl (j := 12) rfl (by decide) (by decide +kernel) rfl (ty := .int) (by decide +kernel) rfl rfl dX12_lineAt_20 ?_
  refine a_aload_n C dX12_lineAt_23 0 rfl ?_
  refine a_getI C (k := 175) iX12 x_k175 rfl (j := 12) rfl (by decide) (by decide +kernel) dX12_lineAt_24 ?_
  refine a_top (y := 1) (by first | rw [x_p_at] | rfl) ?_
  refine a_top (y := 1) rfl ?_
  refine a_if_ne C dX12_lineAt_27 (tgt := 39) (by decide) (fun _ => ?_) (fun h => absurd h (by decide))
  refine a_iconst C dX12_lineAt_39 (v := 0) (by decide) ?_
  exact a_zret C hlocks hr rfl dX12_lineAt_40 rfl rfl

set_option maxHeartbeats 1000000 in
set_option maxRecDepth 100000 in
theorem c_M_lineAt (l : Launch) (G : xG) (d : xd) (i k : Nat) (hk : d 175 11 = nI k) (hk4 : k ≤ 40) (hi : i < k) (c9 : Nat) (hc : d 181 i = nI c9) (hc9 : c9 < 65536) : x_M G l yX12_lineAt wsX12_lineAt 2 0 0 [.ref (x_b G + 175), .int (nI i)] d (some (.int (nI c9))) (g_th d 0) := by
  have iX12 : ∀ w ∈ u_ws RX12 TX12 16, w ∈ wsX12_lineAt := by decide +kernel
  refine x_start (cc := cX12_lineAt) (maxL := 2) (ret := (some .char)) (own := RX12) (by decide) rfl rfl (Nat.le_of_ble_eq_true rfl) (lst := [(0, .ref (x_b G + 175)), (1, .int (nI i))]) rfl ?_
  intro p e s m args below meth c C hr hlocks
  refine a_aload_n C dX12_lineAt_0 0 rfl ?_
  refine a_iload_n C dX12_lineAt_1 1 rfl ?_
  refine a_iconst C dX12_lineAt_2 (v := 0) (by decide) ?_
  refine a_aload_n C dX12_lineAt_3 0 rfl ?_
  refine a_getI C (k := 175) iX12 x_k175 rfl (j := 11) rfl (by decide) (by decide +kernel) dX12_lineAt_4 ?_
  refine a_top (y := (nI k)) hk ?_
  refine a_iconst C dX12_lineAt_7 (v := 1) (by decide) ?_
  refine a_isub C dX12_lineAt_8 ?_
  refine a_callS C (As := [.int (nI i), .int 0, .int ((nI k) - 1)]) (rest := [.ref (x_b G + 175)]) (c_M_in_t l G d (nI i) 0 ((nI k) - 1) ((x_cin (by omega)).mpr (x_in hi (by omega)))) (va_cwS 3 C.1.2.2.2.2 gX12_lineAt_X12_in rfl rfl rfl (by decide +kernel) ⟨Nat.le_of_ble_eq_true rfl, Nat.le_of_ble_eq_true rfl⟩) rfl rfl (Nat.le_of_ble_eq_true rfl) dX12_lineAt_9 ⟨Nat.le_of_ble_eq_true rfl, Nat.le_of_ble_eq_true rfl⟩ ?_
  refine a_if_eq C dX12_lineAt_12 (tgt := 19) (by decide) (fun h => absurd h (by decide)) (fun _ => ?_)
  refine a_iconst C dX12_lineAt_15 (v := 0) (by decide) ?_
  refine a_goto C dX12_lineAt_16 (tgt := 20) (by decide) ?_
  refine a_putI C (k := 175) iX12 tyX12_ok nmX12 x_k175 rfl (j := 12) rfl (by decide) (by decide +kernel) rfl (ty := .int) (by decide +kernel) rfl rfl dX12_lineAt_20 ?_
  refine a_aload_n C dX12_lineAt_23 0 rfl ?_
  refine a_getI C (k := 175) iX12 x_k175 rfl (j := 12) rfl (by decide) (by decide +kernel) dX12_lineAt_24 ?_
  refine a_top (y := 0) (by first | rw [x_p_at] | rfl) ?_
  refine a_top (y := 0) rfl ?_
  refine a_if_ne C dX12_lineAt_27 (tgt := 39) (by decide) (fun h => absurd h (by decide)) (fun _ => ?_)
  refine a_aload_n C dX12_lineAt_30 0 rfl ?_
  refine a_getR C (k := 175) iX12 x_k175 rfl (j := 10) rfl (by decide) (by decide +kernel) dX12_lineAt_31 ?_
  refine a_iload_n C dX12_lineAt_34 1 rfl ?_
  refine a_caldN C (k := 181) x_k181 (i := i) rfl (by omega) (by first | decide | omega) dX12_lineAt_35 ?_
  refine a_top (y := (d 181 i)) (by first | rw [x_p_ne (by omega)] | rfl) ?_
  refine a_top (y := (nI c9)) (hc) ?_
  refine a_goto C dX12_lineAt_36 (tgt := 40) (by decide) ?_
  exact a_zret C hlocks hr (pk_charN hc9).1 dX12_lineAt_40 rfl rfl

set_option maxHeartbeats 1000000 in
set_option maxRecDepth 100000 in
theorem c_M_isBalanced (l : Launch) (G : xG) (d : xd)  : x_M G l yX12_isBalanced wsX12_isBalanced 1 0 0 [.ref (x_b G + 175)] d (some (.int 1)) (g_th d 0) := by
  have iX12 : ∀ w ∈ u_ws RX12 TX12 16, w ∈ wsX12_isBalanced := by decide +kernel
  refine x_start (cc := cX12_isBalanced) (maxL := 1) (ret := (some .boolean)) (own := RX12) (by decide) rfl rfl (Nat.le_of_ble_eq_true rfl) (lst := [(0, .ref (x_b G + 175))]) rfl ?_
  intro p e s m args below meth c C hr hlocks
  refine a_aload_n C dX12_isBalanced_0 0 rfl ?_
  refine a_iconst C dX12_isBalanced_1 (v := 0) (by decide) ?_
  refine a_putI C (k := 175) iX12 tyX12_ok nmX12 x_k175 rfl (j := 12) rfl (by decide) (by decide +kernel) rfl (ty := .int) (by decide +kernel) rfl rfl dX12_isBalanced_2 ?_
  refine a_iconst C dX12_isBalanced_5 (v := 1) (by decide) ?_
  exact a_zret C hlocks hr rfl dX12_isBalanced_6 rfl rfl

set_option maxHeartbeats 1000000 in
set_option maxRecDepth 100000 in
theorem c_M_type_1 (l : Launch) (G : xG) (d : xd) (x : Int32) (hx : ¬ (32 ≤ x ∧ x ≤ 126)) : x_M G l yX12_type wsX12_type 2 0 0 [.ref (x_b G + 175), .int x] d (some (.int 0)) (g_th d 1) := by
  refine x_start (cc := cX12_type) (maxL := 2) (ret := (some .int)) (own := RX12) (by decide) rfl rfl (Nat.le_of_ble_eq_true rfl) (lst := [(0, .ref (x_b G + 175)), (1, .int x)]) rfl ?_
  intro p e s m args below meth c C hr hlocks
  refine a_iload_n C dX12_type_0 1 rfl ?_
  refine a_bipush C dX12_type_1 (v := 32) (by decide) ?_
  refine a_bipush C dX12_type_3 (v := 126) (by decide) ?_
  refine a_callS C (As := [.int x, .int 32, .int 126]) (rest := []) (c_M_in_f l G d x 32 126 hx) (va_cwS 3 C.1.2.2.2.2 gX12_type_X12_in rfl rfl rfl (by decide +kernel) ⟨Nat.le_of_ble_eq_true rfl, Nat.le_of_ble_eq_true rfl⟩) rfl rfl (Nat.le_of_ble_eq_true rfl) dX12_type_5 ⟨Nat.le_of_ble_eq_true rfl, Nat.le_of_ble_eq_true rfl⟩ ?_
  refine a_if_ne C dX12_type_8 (tgt := 17) (by decide) (fun h => absurd h (by decide)) (fun _ => ?_)
  refine a_aload_n C dX12_type_11 0 rfl ?_
  refine a_iconst C dX12_type_12 (v := 1) (by decide) ?_
  refine a_callV C (k := 175) (As := [.int 1]) (rest := []) (c_M_fails l G d 1) (cwV 1 C.1.2.2.2.2 gX12_type_X12_fails rfl rfl rfl (by decide +kernel) ⟨Nat.le_of_ble_eq_true rfl, Nat.le_of_ble_eq_true rfl⟩) x_k175 (q := (RX12, TX12, 16)) rfl rfl rfl rfl (Nat.le_of_ble_eq_true rfl) dX12_type_13 ⟨Nat.le_of_ble_eq_true rfl, Nat.le_of_ble_eq_true rfl⟩ ?_
  exact a_iret C hlocks hr dX12_type_16 rfl rfl

set_option maxHeartbeats 1000000 in
set_option maxRecDepth 100000 in
theorem c_M_type_2 (l : Launch) (G : xG) (d : xd) (x : Int32) (hx : 32 ≤ x ∧ x ≤ 126) (hk : d 175 7 = 60) : x_M G l yX12_type wsX12_type 2 0 0 [.ref (x_b G + 175), .int x] d (some (.int 0)) (g_th d 2) := by
  have iX12 : ∀ w ∈ u_ws RX12 TX12 16, w ∈ wsX12_type := by decide +kernel
  refine x_start (cc := cX12_type) (maxL := 2) (ret := (some .int)) (own := RX12) (by decide) rfl rfl (Nat.le_of_ble_eq_true rfl) (lst := [(0, .ref (x_b G + 175)), (1, .int x)]) rfl ?_
  intro p e s m args below meth c C hr hlocks
  refine a_iload_n C dX12_type_0 1 rfl ?_
  refine a_bipush C dX12_type_1 (v := 32) (by decide) ?_
  refine a_bipush C dX12_type_3 (v := 126) (by decide) ?_
  refine a_callS C (As := [.int x, .int 32, .int 126]) (rest := []) (c_M_in_t l G d x 32 126 hx) (va_cwS 3 C.1.2.2.2.2 gX12_type_X12_in rfl rfl rfl (by decide +kernel) ⟨Nat.le_of_ble_eq_true rfl, Nat.le_of_ble_eq_true rfl⟩) rfl rfl (Nat.le_of_ble_eq_true rfl) dX12_type_5 ⟨Nat.le_of_ble_eq_true rfl, Nat.le_of_ble_eq_true rfl⟩ ?_
  refine a_if_ne C dX12_type_8 (tgt := 17) (by decide) (fun _ => ?_) (fun h => absurd h (by decide))
  refine a_aload_n C dX12_type_17 0 rfl ?_
  refine a_getI C (k := 175) iX12 x_k175 rfl (j := 7) rfl (by decide) (by decide +kernel) dX12_type_18 ?_
  refine a_top (y := 60) hk ?_
  refine a_bipush C dX12_type_21 (v := 60) (by decide) ?_
  refine a_icmp_ne C dX12_type_23 (tgt := 32) (by decide) (fun h => absurd h (by decide)) (fun _ => ?_)
  refine a_aload_n C dX12_type_26 0 rfl ?_
  refine a_iconst C dX12_type_27 (v := 2) (by decide) ?_
  refine a_callV C (k := 175) (As := [.int 2]) (rest := []) (c_M_fails l G d 2) (cwV 1 C.1.2.2.2.2 gX12_type_X12_fails rfl rfl rfl (by decide +kernel) ⟨Nat.le_of_ble_eq_true rfl, Nat.le_of_ble_eq_true rfl⟩) x_k175 (q := (RX12, TX12, 16)) rfl rfl rfl rfl (Nat.le_of_ble_eq_true rfl) dX12_type_28 ⟨Nat.le_of_ble_eq_true rfl, Nat.le_of_ble_eq_true rfl⟩ ?_
  exact a_iret C hlocks hr dX12_type_31 rfl rfl

set_option maxHeartbeats 1000000 in
set_option maxRecDepth 100000 in
theorem c_M_type (l : Launch) (G : xG) (d : xd) (a k : Nat) (hx : 32 ≤ nI a ∧ nI a ≤ 126) (ha : a < 65536) (hk : d 175 7 = nI k) (hk6 : k < 60) : x_M G l yX12_type wsX12_type 2 0 0 [.ref (x_b G + 175), .int (nI a)] d (some (.int (nI (k + 1)))) (x_p (x_p (x_p d 180 k (nI a)) 175 7 (nI (k + 1))) 175 12 0) := by
  have iX12 : ∀ w ∈ u_ws RX12 TX12 16, w ∈ wsX12_type := by decide +kernel
  refine x_start (cc := cX12_type) (maxL := 2) (ret := (some .int)) (own := RX12) (by decide) rfl rfl (Nat.le_of_ble_eq_true rfl) (lst := [(0, .ref (x_b G + 175)), (1, .int (nI a))]) rfl ?_
  intro p e s m args below meth c C hr hlocks
  refine a_iload_n C dX12_type_0 1 rfl ?_
  refine a_bipush C dX12_type_1 (v := 32) (by decide) ?_
  refine a_bipush C dX12_type_3 (v := 126) (by decide) ?_
  refine a_callS C (As := [.int (nI a), .int 32, .int 126]) (rest := []) (c_M_in_t l G d (nI a) 32 126 hx) (va_cwS 3 C.1.2.2.2.2 gX12_type_X12_in rfl rfl rfl (by decide +kernel) ⟨Nat.le_of_ble_eq_true rfl, Nat.le_of_ble_eq_true rfl⟩) rfl rfl (Nat.le_of_ble_eq_true rfl) dX12_type_5 ⟨Nat.le_of_ble_eq_true rfl, Nat.le_of_ble_eq_true rfl⟩ ?_
  refine a_if_ne C dX12_type_8 (tgt := 17) (by decide) (fun _ => ?_) (fun h => absurd h (by decide))
  refine a_aload_n C dX12_type_17 0 rfl ?_
  refine a_getI C (k := 175) iX12 x_k175 rfl (j := 7) rfl (by decide) (by decide +kernel) dX12_type_18 ?_
  refine a_top (y := (nI k)) hk ?_
  refine a_bipush C dX12_type_21 (v := 60) (by decide) ?_
  refine a_icmp_ne C dX12_type_23 (tgt := 32) (by decide) (fun h23 => ?_) (fun h => False.elim (x_nI_ne (k := 60) hk6 (by omega) h))
  refine a_aload_n C dX12_type_32 0 rfl ?_
  refine a_getR C (k := 175) iX12 x_k175 rfl (j := 6) rfl (by decide) (by decide +kernel) dX12_type_33 ?_
  refine a_aload_n C dX12_type_36 0 rfl ?_
  refine a_getI C (k := 175) iX12 x_k175 rfl (j := 7) rfl (by decide) (by decide +kernel) dX12_type_37 ?_
  refine a_top (y := (nI k)) hk ?_
  refine a_iload_n C dX12_type_40 1 rfl ?_
  refine a_castN C (k := 180) x_k180 (i := k) rfl (by omega) (by first | decide | omega) (v := (nI a)) (x_chn ha) dX12_type_41 ?_
  refine a_aload_n C dX12_type_42 0 rfl ?_
  refine a_dup C dX12_type_43 rfl ?_
  refine a_getI C (k := 175) iX12 x_k175 rfl (j := 7) rfl (by decide) (by decide +kernel) dX12_type_44 ?_
  refine a_top (y := (d 175 7)) (by first | rw [x_p_ne (by omega)] | rfl) ?_
  refine a_top (y := (nI k)) hk ?_
  refine a_iconst C dX12_type_47 (v := 1) (by decide) ?_
  refine a_iadd C dX12_type_48 ?_
  refine a_top (y := (nI (k + 1))) (nI_1 k) ?_
  refine a_putI C (k := 175) iX12 tyX12_ok nmX12 x_k175 rfl (j := 7) rfl (by decide) (by decide +kernel) rfl (ty := .int) (by decide +kernel) rfl rfl dX12_type_49 ?_
  refine a_aload_n C dX12_type_52 0 rfl ?_
  refine a_aload_n C dX12_type_53 0 rfl ?_
  refine a_getI C (k := 175) iX12 x_k175 rfl (j := 7) rfl (by decide) (by decide +kernel) dX12_type_54 ?_
  refine a_top (y := ((nI (k + 1)))) (by first | rw [x_p_at] | rfl) ?_
  refine a_callV C (k := 175) (As := [.int ((nI (k + 1)))]) (rest := []) (c_M_done l G (x_p (x_p d 180 k (nI a)) 175 7 (nI (k + 1))) ((nI (k + 1)))) (cwV 1 C.1.2.2.2.2 gX12_type_X12_done rfl rfl rfl (by decide +kernel) ⟨Nat.le_of_ble_eq_true rfl, Nat.le_of_ble_eq_true rfl⟩) x_k175 (q := (RX12, TX12, 16)) rfl rfl rfl rfl (Nat.le_of_ble_eq_true rfl) dX12_type_57 ⟨Nat.le_of_ble_eq_true rfl, Nat.le_of_ble_eq_true rfl⟩ ?_
  exact a_iret C hlocks hr dX12_type_60 rfl rfl

set_option maxHeartbeats 1000000 in
set_option maxRecDepth 100000 in
theorem c_M_errorPosition_1 (l : Launch) (G : xG) (d : xd) (hx : d 175 8 = -1) : x_M G l yX12_errorPosition wsX12_errorPosition 2 0 0 [.ref (x_b G + 175)] d (some (.int 0)) (g_th d 1) := by
  have iX12 : ∀ w ∈ u_ws RX12 TX12 16, w ∈ wsX12_errorPosition := by decide +kernel
  refine x_start (cc := cX12_errorPosition) (maxL := 1) (ret := (some .int)) (own := RX12) (by decide) rfl rfl (Nat.le_of_ble_eq_true rfl) (lst := [(0, .ref (x_b G + 175))]) rfl ?_
  intro p e s m args below meth c C hr hlocks
  refine a_aload_n C dX12_errorPosition_0 0 rfl ?_
  refine a_getI C (k := 175) iX12 x_k175 rfl (j := 8) rfl (by decide) (by decide +kernel) dX12_errorPosition_1 ?_
  refine a_top (y := (-1)) hx ?_
  refine a_iconst C dX12_errorPosition_4 (v := -1) (by decide) ?_
  refine a_icmp_ne C dX12_errorPosition_5 (tgt := 16) (by decide) (fun h => absurd h (by decide)) (fun _ => ?_)
  refine a_aload_n C dX12_errorPosition_8 0 rfl ?_
  refine a_iconst C dX12_errorPosition_9 (v := 1) (by decide) ?_
  refine a_callV C (k := 175) (As := [.int 1]) (rest := []) (c_M_fails l G d 1) (cwV 1 C.1.2.2.2.2 gX12_errorPosition_X12_fails rfl rfl rfl (by decide +kernel) ⟨Nat.le_of_ble_eq_true rfl, Nat.le_of_ble_eq_true rfl⟩) x_k175 (q := (RX12, TX12, 16)) rfl rfl rfl rfl (Nat.le_of_ble_eq_true rfl) dX12_errorPosition_10 ⟨Nat.le_of_ble_eq_true rfl, Nat.le_of_ble_eq_true rfl⟩ ?_
  refine a_goto C dX12_errorPosition_13 (tgt := 24) (by decide) ?_
  exact a_iret C hlocks hr dX12_errorPosition_24 rfl rfl

set_option maxHeartbeats 1000000 in
set_option maxRecDepth 100000 in
theorem c_M_errorPosition (l : Launch) (G : xG) (d : xd) (hx : ¬ d 175 8 = -1) : x_M G l yX12_errorPosition wsX12_errorPosition 2 0 0 [.ref (x_b G + 175)] d (some (.int (d 175 8))) (g_th d 0) := by
  have iX12 : ∀ w ∈ u_ws RX12 TX12 16, w ∈ wsX12_errorPosition := by decide +kernel
  refine x_start (cc := cX12_errorPosition) (maxL := 1) (ret := (some .int)) (own := RX12) (by decide) rfl rfl (Nat.le_of_ble_eq_true rfl) (lst := [(0, .ref (x_b G + 175))]) rfl ?_
  intro p e s m args below meth c C hr hlocks
  refine a_aload_n C dX12_errorPosition_0 0 rfl ?_
  refine a_getI C (k := 175) iX12 x_k175 rfl (j := 8) rfl (by decide) (by decide +kernel) dX12_errorPosition_1 ?_
  refine a_iconst C dX12_errorPosition_4 (v := -1) (by decide) ?_
  refine a_icmp_ne C dX12_errorPosition_5 (tgt := 16) (by decide) (fun h5 => ?_) (fun h => False.elim (hx h))
  refine a_aload_n C dX12_errorPosition_16 0 rfl ?_
  refine a_aload_n C dX12_errorPosition_17 0 rfl ?_
  refine a_getI C (k := 175) iX12 x_k175 rfl (j := 8) rfl (by decide) (by decide +kernel) dX12_errorPosition_18 ?_
  refine a_callV C (k := 175) (As := [.int (d 175 8)]) (rest := []) (c_M_done l G d (d 175 8)) (cwV 1 C.1.2.2.2.2 gX12_errorPosition_X12_done rfl rfl rfl (by decide +kernel) ⟨Nat.le_of_ble_eq_true rfl, Nat.le_of_ble_eq_true rfl⟩) x_k175 (q := (RX12, TX12, 16)) rfl rfl rfl rfl (Nat.le_of_ble_eq_true rfl) dX12_errorPosition_21 ⟨Nat.le_of_ble_eq_true rfl, Nat.le_of_ble_eq_true rfl⟩ ?_
  exact a_iret C hlocks hr dX12_errorPosition_24 rfl rfl

set_option maxHeartbeats 1000000 in
set_option maxRecDepth 100000 in
theorem c_M_failedCommand_1 (l : Launch) (G : xG) (d : xd) (hx : d 175 9 = -1) : x_M G l yX12_failedCommand wsX12_failedCommand 2 0 0 [.ref (x_b G + 175)] d (some (.int 0)) (g_th d 1) := by
  have iX12 : ∀ w ∈ u_ws RX12 TX12 16, w ∈ wsX12_failedCommand := by decide +kernel
  refine x_start (cc := cX12_failedCommand) (maxL := 1) (ret := (some .int)) (own := RX12) (by decide) rfl rfl (Nat.le_of_ble_eq_true rfl) (lst := [(0, .ref (x_b G + 175))]) rfl ?_
  intro p e s m args below meth c C hr hlocks
  refine a_aload_n C dX12_failedCommand_0 0 rfl ?_
  refine a_getI C (k := 175) iX12 x_k175 rfl (j := 9) rfl (by decide) (by decide +kernel) dX12_failedCommand_1 ?_
  refine a_top (y := (-1)) hx ?_
  refine a_iconst C dX12_failedCommand_4 (v := -1) (by decide) ?_
  refine a_icmp_ne C dX12_failedCommand_5 (tgt := 16) (by decide) (fun h => absurd h (by decide)) (fun _ => ?_)
  refine a_aload_n C dX12_failedCommand_8 0 rfl ?_
  refine a_iconst C dX12_failedCommand_9 (v := 1) (by decide) ?_
  refine a_callV C (k := 175) (As := [.int 1]) (rest := []) (c_M_fails l G d 1) (cwV 1 C.1.2.2.2.2 gX12_failedCommand_X12_fails rfl rfl rfl (by decide +kernel) ⟨Nat.le_of_ble_eq_true rfl, Nat.le_of_ble_eq_true rfl⟩) x_k175 (q := (RX12, TX12, 16)) rfl rfl rfl rfl (Nat.le_of_ble_eq_true rfl) dX12_failedCommand_10 ⟨Nat.le_of_ble_eq_true rfl, Nat.le_of_ble_eq_true rfl⟩ ?_
  refine a_goto C dX12_failedCommand_13 (tgt := 24) (by decide) ?_
  exact a_iret C hlocks hr dX12_failedCommand_24 rfl rfl

set_option maxHeartbeats 1000000 in
set_option maxRecDepth 100000 in
theorem c_M_failedCommand (l : Launch) (G : xG) (d : xd) (hx : ¬ d 175 9 = -1) : x_M G l yX12_failedCommand wsX12_failedCommand 2 0 0 [.ref (x_b G + 175)] d (some (.int (d 175 9))) (g_th d 0) := by
  have iX12 : ∀ w ∈ u_ws RX12 TX12 16, w ∈ wsX12_failedCommand := by decide +kernel
  refine x_start (cc := cX12_failedCommand) (maxL := 1) (ret := (some .int)) (own := RX12) (by decide) rfl rfl (Nat.le_of_ble_eq_true rfl) (lst := [(0, .ref (x_b G + 175))]) rfl ?_
  intro p e s m args below meth c C hr hlocks
  refine a_aload_n C dX12_failedCommand_0 0 rfl ?_
  refine a_getI C (k := 175) iX12 x_k175 rfl (j := 9) rfl (by decide) (by decide +kernel) dX12_failedCommand_1 ?_
  refine a_iconst C dX12_failedCommand_4 (v := -1) (by decide) ?_
  refine a_icmp_ne C dX12_failedCommand_5 (tgt := 16) (by decide) (fun h5 => ?_) (fun h => False.elim (hx h))
  refine a_aload_n C dX12_failedCommand_16 0 rfl ?_
  refine a_aload_n C dX12_failedCommand_17 0 rfl ?_
  refine a_getI C (k := 175) iX12 x_k175 rfl (j := 9) rfl (by decide) (by decide +kernel) dX12_failedCommand_18 ?_
  refine a_callV C (k := 175) (As := [.int (d 175 9)]) (rest := []) (c_M_done l G d (d 175 9)) (cwV 1 C.1.2.2.2.2 gX12_failedCommand_X12_done rfl rfl rfl (by decide +kernel) ⟨Nat.le_of_ble_eq_true rfl, Nat.le_of_ble_eq_true rfl⟩) x_k175 (q := (RX12, TX12, 16)) rfl rfl rfl rfl (Nat.le_of_ble_eq_true rfl) dX12_failedCommand_21 ⟨Nat.le_of_ble_eq_true rfl, Nat.le_of_ble_eq_true rfl⟩ ?_
  exact a_iret C hlocks hr dX12_failedCommand_24 rfl rfl

set_option maxHeartbeats 1000000 in
set_option maxRecDepth 100000 in
theorem c_M_undo_1 (l : Launch) (G : xG) (d : xd) (hc : d 175 3 = 0) : x_M G l yX12_undo wsX12_undo 2 0 0 [.ref (x_b G + 175)] d (some (.int 0)) (g_th d 1) := by
  have iX12 : ∀ w ∈ u_ws RX12 TX12 16, w ∈ wsX12_undo := by decide +kernel
  refine x_start (cc := cX12_undo) (maxL := 1) (ret := (some .int)) (own := RX12) (by decide) rfl rfl (Nat.le_of_ble_eq_true rfl) (lst := [(0, .ref (x_b G + 175))]) rfl ?_
  intro p e s m args below meth c C hr hlocks
  refine a_aload_n C dX12_undo_0 0 rfl ?_
  refine a_getI C (k := 175) iX12 x_k175 rfl (j := 3) rfl (by decide) (by decide +kernel) dX12_undo_1 ?_
  refine a_top (y := 0) hc ?_
  refine a_if_ne C dX12_undo_4 (tgt := 13) (by decide) (fun h => absurd h (by decide)) (fun _ => ?_)
  refine a_aload_n C dX12_undo_7 0 rfl ?_
  refine a_iconst C dX12_undo_8 (v := 1) (by decide) ?_
  refine a_callV C (k := 175) (As := [.int 1]) (rest := []) (c_M_fails l G d 1) (cwV 1 C.1.2.2.2.2 gX12_undo_X12_fails rfl rfl rfl (by decide +kernel) ⟨Nat.le_of_ble_eq_true rfl, Nat.le_of_ble_eq_true rfl⟩) x_k175 (q := (RX12, TX12, 16)) rfl rfl rfl rfl (Nat.le_of_ble_eq_true rfl) dX12_undo_9 ⟨Nat.le_of_ble_eq_true rfl, Nat.le_of_ble_eq_true rfl⟩ ?_
  exact a_iret C hlocks hr dX12_undo_12 rfl rfl

set_option maxHeartbeats 1000000 in
set_option maxRecDepth 100000 in
theorem c_M_undo (l : Launch) (G : xG) (d : xd) (k : Nat) (hc : d 175 3 = nI (k + 1)) (hk : k < 8) : x_M G l yX12_undo wsX12_undo 2 0 0 [.ref (x_b G + 175)] d (some (.int (nI k))) (x_p (x_r (x_p d 175 3 (nI k)) 176 (va_cpy (d 178) (d 176) (k * 80) 0 80)) 175 12 0) := by
  have iX12 : ∀ w ∈ u_ws RX12 TX12 16, w ∈ wsX12_undo := by decide +kernel
  refine x_start (cc := cX12_undo) (maxL := 1) (ret := (some .int)) (own := RX12) (by decide) rfl rfl (Nat.le_of_ble_eq_true rfl) (lst := [(0, .ref (x_b G + 175))]) rfl ?_
  intro p e s m args below meth c C hr hlocks
  refine a_aload_n C dX12_undo_0 0 rfl ?_
  refine a_getI C (k := 175) iX12 x_k175 rfl (j := 3) rfl (by decide) (by decide +kernel) dX12_undo_1 ?_
  refine a_top (y := (nI (k + 1))) hc ?_
  refine a_if_ne C dX12_undo_4 (tgt := 13) (by decide) (fun h4 => ?_) (fun h => False.elim (nI_ne0 (by omega) (by omega) h))
  refine a_aload_n C dX12_undo_13 0 rfl ?_
  refine a_dup C dX12_undo_14 rfl ?_
  refine a_getI C (k := 175) iX12 x_k175 rfl (j := 3) rfl (by decide) (by decide +kernel) dX12_undo_15 ?_
  refine a_top (y := (nI (k + 1))) hc ?_
  refine a_iconst C dX12_undo_18 (v := 1) (by decide) ?_
  refine a_isub C dX12_undo_19 ?_
  refine a_top (y := (nI k)) (pk_sub (a := k + 1) (b := 1) (by omega)) ?_
  refine a_putI C (k := 175) iX12 tyX12_ok nmX12 x_k175 rfl (j := 3) rfl (by decide) (by decide +kernel) rfl (ty := .int) (by decide +kernel) rfl rfl dX12_undo_20 ?_
  refine a_aload_n C dX12_undo_23 0 rfl ?_
  refine a_getR C (k := 175) iX12 x_k175 rfl (j := 2) rfl (by decide) (by decide +kernel) dX12_undo_24 ?_
  refine a_aload_n C dX12_undo_27 0 rfl ?_
  refine a_getI C (k := 175) iX12 x_k175 rfl (j := 3) rfl (by decide) (by decide +kernel) dX12_undo_28 ?_
  refine a_top (y := ((nI k))) (by first | rw [x_p_at] | rfl) ?_
  refine a_top (y := (nI k)) rfl ?_
  refine a_bipush C dX12_undo_31 (v := 80) (by decide) ?_
  refine a_imul C dX12_undo_33 ?_
  refine a_top (y := (nI (k * 80))) (pk_mul k 80) ?_
  refine a_aload_n C dX12_undo_34 0 rfl ?_
  refine a_getR C (k := 175) iX12 x_k175 rfl (j := 0) rfl (by decide) (by decide +kernel) dX12_undo_35 ?_
  refine a_iconst C dX12_undo_38 (v := 0) (by decide) ?_
  refine a_callS C (As := [.ref (x_b G + 178), .int (nI (k * 80)), .ref (x_b G + 176), .int 0]) (rest := []) (c_M_copy l G (x_p d 175 3 (nI k)) 178 176 (k * 80) 0 640 80 x_k178 x_k176 (by decide) (by omega) (by omega) (by decide) (by decide)) (va_cwS 4 C.1.2.2.2.2 gX12_undo_X12_copy rfl rfl rfl (by decide +kernel) ⟨Nat.le_of_ble_eq_true rfl, Nat.le_of_ble_eq_true rfl⟩) rfl rfl (Nat.le_of_ble_eq_true rfl) dX12_undo_39 ⟨Nat.le_of_ble_eq_true rfl, Nat.le_of_ble_eq_true rfl⟩ ?_
  refine a_aload_n C dX12_undo_42 0 rfl ?_
  refine a_aload_n C dX12_undo_43 0 rfl ?_
  refine a_getI C (k := 175) iX12 x_k175 rfl (j := 3) rfl (by decide) (by decide +kernel) dX12_undo_44 ?_
  refine a_top (y := ((nI k))) (by first | rw [x_r_ne2 (by omega), x_p_at] | rfl) ?_
  refine a_top (y := (nI k)) rfl ?_
  refine a_callV C (k := 175) (As := [.int (nI k)]) (rest := []) (c_M_done l G (x_r (x_p d 175 3 (nI k)) 176 (va_cpy ((x_p d 175 3 (nI k)) 178) ((x_p d 175 3 (nI k)) 176) (k * 80) 0 80)) (nI k)) (cwV 1 C.1.2.2.2.2 gX12_undo_X12_done rfl rfl rfl (by decide +kernel) ⟨Nat.le_of_ble_eq_true rfl, Nat.le_of_ble_eq_true rfl⟩) x_k175 (q := (RX12, TX12, 16)) rfl rfl rfl rfl (Nat.le_of_ble_eq_true rfl) dX12_undo_47 ⟨Nat.le_of_ble_eq_true rfl, Nat.le_of_ble_eq_true rfl⟩ ?_
  exact a_iret C hlocks hr dX12_undo_50 rfl rfl

set_option maxHeartbeats 1000000 in
set_option maxRecDepth 100000 in
theorem c_M_save (l : Launch) (G : xG) (d : xd)  : x_M G l yX12_save wsX12_save 2 0 0 [.ref (x_b G + 175)] d (some (.int (d 176 0))) (x_p (x_p (x_r d 179 (va_cpy (d 176) (d 179) 0 0 80)) 175 5 1) 175 12 0) := by
  have iX12 : ∀ w ∈ u_ws RX12 TX12 16, w ∈ wsX12_save := by decide +kernel
  refine x_start (cc := cX12_save) (maxL := 1) (ret := (some .int)) (own := RX12) (by decide) rfl rfl (Nat.le_of_ble_eq_true rfl) (lst := [(0, .ref (x_b G + 175))]) rfl ?_
  intro p e s m args below meth c C hr hlocks
  refine a_aload_n C dX12_save_0 0 rfl ?_
  refine a_getR C (k := 175) iX12 x_k175 rfl (j := 0) rfl (by decide) (by decide +kernel) dX12_save_1 ?_
  refine a_iconst C dX12_save_4 (v := 0) (by decide) ?_
  refine a_aload_n C dX12_save_5 0 rfl ?_
  refine a_getR C (k := 175) iX12 x_k175 rfl (j := 4) rfl (by decide) (by decide +kernel) dX12_save_6 ?_
  refine a_iconst C dX12_save_9 (v := 0) (by decide) ?_
  refine a_callS C (As := [.ref (x_b G + 176), .int 0, .ref (x_b G + 179), .int 0]) (rest := []) (c_M_copy l G d 176 179 0 0 80 80 x_k176 x_k179 (by decide) (by omega) (by omega) (by decide) (by decide)) (va_cwS 4 C.1.2.2.2.2 gX12_save_X12_copy rfl rfl rfl (by decide +kernel) ⟨Nat.le_of_ble_eq_true rfl, Nat.le_of_ble_eq_true rfl⟩) rfl rfl (Nat.le_of_ble_eq_true rfl) dX12_save_10 ⟨Nat.le_of_ble_eq_true rfl, Nat.le_of_ble_eq_true rfl⟩ ?_
  refine a_aload_n C dX12_save_13 0 rfl ?_
  refine a_iconst C dX12_save_14 (v := 1) (by decide) ?_
  refine a_putI C (k := 175) iX12 tyX12_ok nmX12 x_k175 rfl (j := 5) rfl (by decide) (by decide +kernel) rfl (ty := .boolean) (by decide +kernel) rfl rfl dX12_save_15 ?_
  refine a_aload_n C dX12_save_18 0 rfl ?_
  refine a_aload_n C dX12_save_19 0 rfl ?_
  refine a_getR C (k := 175) iX12 x_k175 rfl (j := 0) rfl (by decide) (by decide +kernel) dX12_save_20 ?_
  refine a_iconst C dX12_save_23 (v := 0) (by decide) ?_
  refine a_ialdN C (k := 176) x_k176 (i := 0) rfl (by decide) (by first | decide | omega) dX12_save_24 ?_
  refine a_top (y := (d 176 0)) (by first | rw [x_p_ne (by omega), x_r_ne2 (by omega)] | rfl) ?_
  refine a_callV C (k := 175) (As := [.int (d 176 0)]) (rest := []) (c_M_done l G (x_p (x_r d 179 (va_cpy (d 176) (d 179) 0 0 80)) 175 5 1) (d 176 0)) (cwV 1 C.1.2.2.2.2 gX12_save_X12_done rfl rfl rfl (by decide +kernel) ⟨Nat.le_of_ble_eq_true rfl, Nat.le_of_ble_eq_true rfl⟩) x_k175 (q := (RX12, TX12, 16)) rfl rfl rfl rfl (Nat.le_of_ble_eq_true rfl) dX12_save_25 ⟨Nat.le_of_ble_eq_true rfl, Nat.le_of_ble_eq_true rfl⟩ ?_
  exact a_iret C hlocks hr dX12_save_28 rfl rfl

set_option maxHeartbeats 1000000 in
set_option maxRecDepth 100000 in
theorem c_M_restore_1 (l : Launch) (G : xG) (d : xd) (hc : d 175 5 = 0) : x_M G l yX12_restore wsX12_restore 2 0 0 [.ref (x_b G + 175)] d (some (.int 0)) (g_th d 1) := by
  have iX12 : ∀ w ∈ u_ws RX12 TX12 16, w ∈ wsX12_restore := by decide +kernel
  refine x_start (cc := cX12_restore) (maxL := 1) (ret := (some .int)) (own := RX12) (by decide) rfl rfl (Nat.le_of_ble_eq_true rfl) (lst := [(0, .ref (x_b G + 175))]) rfl ?_
  intro p e s m args below meth c C hr hlocks
  refine a_aload_n C dX12_restore_0 0 rfl ?_
  refine a_getI C (k := 175) iX12 x_k175 rfl (j := 5) rfl (by decide) (by decide +kernel) dX12_restore_1 ?_
  refine a_top (y := 0) hc ?_
  refine a_if_ne C dX12_restore_4 (tgt := 13) (by decide) (fun h => absurd h (by decide)) (fun _ => ?_)
  refine a_aload_n C dX12_restore_7 0 rfl ?_
  refine a_iconst C dX12_restore_8 (v := 1) (by decide) ?_
  refine a_callV C (k := 175) (As := [.int 1]) (rest := []) (c_M_fails l G d 1) (cwV 1 C.1.2.2.2.2 gX12_restore_X12_fails rfl rfl rfl (by decide +kernel) ⟨Nat.le_of_ble_eq_true rfl, Nat.le_of_ble_eq_true rfl⟩) x_k175 (q := (RX12, TX12, 16)) rfl rfl rfl rfl (Nat.le_of_ble_eq_true rfl) dX12_restore_9 ⟨Nat.le_of_ble_eq_true rfl, Nat.le_of_ble_eq_true rfl⟩ ?_
  exact a_iret C hlocks hr dX12_restore_12 rfl rfl

set_option maxHeartbeats 1000000 in
set_option maxRecDepth 100000 in
theorem c_M_restore (l : Launch) (G : xG) (d : xd) (hc : ¬ d 175 5 = 0) : x_M G l yX12_restore wsX12_restore 2 0 0 [.ref (x_b G + 175)] d (some (.int (d 179 0))) (x_p (x_p (x_r d 176 (va_cpy (d 179) (d 176) 0 0 80)) 175 3 0) 175 12 0) := by
  have iX12 : ∀ w ∈ u_ws RX12 TX12 16, w ∈ wsX12_restore := by decide +kernel
  refine x_start (cc := cX12_restore) (maxL := 1) (ret := (some .int)) (own := RX12) (by decide) rfl rfl (Nat.le_of_ble_eq_true rfl) (lst := [(0, .ref (x_b G + 175))]) rfl ?_
  intro p e s m args below meth c C hr hlocks
  refine a_aload_n C dX12_restore_0 0 rfl ?_
  refine a_getI C (k := 175) iX12 x_k175 rfl (j := 5) rfl (by decide) (by decide +kernel) dX12_restore_1 ?_
  refine a_if_ne C dX12_restore_4 (tgt := 13) (by decide) (fun h4 => ?_) (fun h => False.elim (hc h))
  refine a_aload_n C dX12_restore_13 0 rfl ?_
  refine a_getR C (k := 175) iX12 x_k175 rfl (j := 4) rfl (by decide) (by decide +kernel) dX12_restore_14 ?_
  refine a_iconst C dX12_restore_17 (v := 0) (by decide) ?_
  refine a_aload_n C dX12_restore_18 0 rfl ?_
  refine a_getR C (k := 175) iX12 x_k175 rfl (j := 0) rfl (by decide) (by decide +kernel) dX12_restore_19 ?_
  refine a_iconst C dX12_restore_22 (v := 0) (by decide) ?_
  refine a_callS C (As := [.ref (x_b G + 179), .int 0, .ref (x_b G + 176), .int 0]) (rest := []) (c_M_copy l G d 179 176 0 0 80 80 x_k179 x_k176 (by decide) (by omega) (by omega) (by decide) (by decide)) (va_cwS 4 C.1.2.2.2.2 gX12_restore_X12_copy rfl rfl rfl (by decide +kernel) ⟨Nat.le_of_ble_eq_true rfl, Nat.le_of_ble_eq_true rfl⟩) rfl rfl (Nat.le_of_ble_eq_true rfl) dX12_restore_23 ⟨Nat.le_of_ble_eq_true rfl, Nat.le_of_ble_eq_true rfl⟩ ?_
  refine a_aload_n C dX12_restore_26 0 rfl ?_
  refine a_iconst C dX12_restore_27 (v := 0) (by decide) ?_
  refine a_putI C (k := 175) iX12 tyX12_ok nmX12 x_k175 rfl (j := 3) rfl (by decide) (by decide +kernel) rfl (ty := .int) (by decide +kernel) rfl rfl dX12_restore_28 ?_
  refine a_aload_n C dX12_restore_31 0 rfl ?_
  refine a_aload_n C dX12_restore_32 0 rfl ?_
  refine a_getR C (k := 175) iX12 x_k175 rfl (j := 0) rfl (by decide) (by decide +kernel) dX12_restore_33 ?_
  refine a_iconst C dX12_restore_36 (v := 0) (by decide) ?_
  refine a_ialdN C (k := 176) x_k176 (i := 0) rfl (by decide) (by first | decide | omega) dX12_restore_37 ?_
  refine a_top (y := ((x_r d 176 (va_cpy (d 179) (d 176) 0 0 80)) 176 0)) (by first | rw [x_p_ne (by omega)] | rfl) ?_
  refine a_top (y := (d 179 0)) rfl ?_
  refine a_callV C (k := 175) (As := [.int (d 179 0)]) (rest := []) (c_M_done l G (x_p (x_r d 176 (va_cpy (d 179) (d 176) 0 0 80)) 175 3 0) (d 179 0)) (cwV 1 C.1.2.2.2.2 gX12_restore_X12_done rfl rfl rfl (by decide +kernel) ⟨Nat.le_of_ble_eq_true rfl, Nat.le_of_ble_eq_true rfl⟩) x_k175 (q := (RX12, TX12, 16)) rfl rfl rfl rfl (Nat.le_of_ble_eq_true rfl) dX12_restore_38 ⟨Nat.le_of_ble_eq_true rfl, Nat.le_of_ble_eq_true rfl⟩ ?_
  exact a_iret C hlocks hr dX12_restore_41 rfl rfl

