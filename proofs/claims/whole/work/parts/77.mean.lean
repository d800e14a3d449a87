section XDBM
variable {G : xG} {p : Program} {l : Launch} {e : Env} {R : Room} {s : State} {m : MethodId} {args : Array Value} {below : List Frame} {meth : Method} {c : Code} {nL cells slots : Nat} {Q : State → Prop} {cc : ByteArray} {Ts : List Cond} {own : String} {pc : Nat} {lst lst2 : List (Nat × Value)} {rest : List Value} {d : xd}
theorem a_dconst0 (C : Cx G p s m args c cc Ts own nL) (hdg : decode cc pc = .ok (.dconst 0, 1)) (k : Ab G p l e R s m args below meth c nL cells slots Q (pc + 1) lst (.double FP.dconst0 :: rest) d) : Ab G p l e R s m args below meth c nL cells slots Q pc lst rest d := fun H locs ls hP hS hl => lv_dconst0 C.1.1 C.1.2.1 hdg (k H locs ls hP hS hl)
end XDBM
set_option maxHeartbeats 1000000 in
set_option maxRecDepth 100000 in
theorem c_M_meanOil (l : Launch) (G : xG) (d : xd) (n : Nat) (hn : d 176 0 = nI n) (h8 : n ≤ 8)(h1 : 1 ≤ n) (a9 : Nat) (ha9 : a9 < 481) (hs : f_sum (g_row (d 176) 38) n = nI a9) : x_M G l yX12_meanOil wsX12_meanOil 1 0 0 [.ref (x_b G + 175)] d (some (.double (x_mn a9 n))) (g_th d 0) := by
  have iX12 : ∀ w ∈ u_ws RX12 TX12 16, w ∈ wsX12_meanOil := by decide +kernel
  refine x_start (cc := cX12_meanOil) (maxL := 3) (ret := (some .double)) (own := RX12) (by decide) rfl rfl (Nat.le_of_ble_eq_true rfl) (lst := [(0, .ref (x_b G + 175))]) rfl ?_
  intro p e s m args below meth c C hr hlocks
  refine a_iconst C dX12_meanOil_0 (v := 0) (by decide) ?_
  refine a_istore_n C dX12_meanOil_1 (by decide) (lst2 := [(1, .int 0), (0, .ref (x_b G + 175))]) rfl ?_
  refine a_iconst C dX12_meanOil_2 (v := 0) (by decide) ?_
  refine a_istore_n C dX12_meanOil_3 (by decide) (lst2 := [(2, .int 0), (1, .int 0), (0, .ref (x_b G + 175))]) rfl ?_
  have L4 : ∀ (j i : Nat), i ≤ n → n < i + j → Ab G p l e (x_rm 1 0 0) s m args below meth c 3 0 0 (MQ below (x_Q G (some (.double (x_mn a9 n))) (g_th d 0)) args s 0 0 (x_A G)) 4 [(2, .int (nI i)), (1, .int (f_sum (g_row (d 176) 38) i)), (0, .ref (x_b G + 175))] [] d := by
    intro j
    induction j with
    | zero => intro i h1 h2; exact absurd h2 (by omega)
    | succ j ih =>
      intro i hi hj 
      refine a_iload_n C dX12_meanOil_4 0 rfl ?_
      refine a_aload_n C dX12_meanOil_5 2 rfl ?_
      refine a_getR C (k := 175) iX12 x_k175 rfl (j := 0) rfl (by decide) (by decide +kernel) dX12_meanOil_6 ?_
      refine a_iconst C dX12_meanOil_9 (v := 0) (by decide) ?_
      refine a_ialdN C (k := 176) x_k176 (i := 0) rfl (by decide) (by first | decide | omega) dX12_meanOil_10 ?_
      refine a_top (y := (nI n)) hn ?_
      refine a_icmp_ge C dX12_meanOil_11 (tgt := 32) (by decide) (fun h11 => ?_) (fun h11 => ?_)
      · skip
        have e := x_ge h11 hi (by omega)
        have e9 := e.symm
        subst e9
        clear e
        refine a_aload_n C dX12_meanOil_32 2 rfl ?_
        refine a_aload_n C dX12_meanOil_33 2 rfl ?_
        refine a_getR C (k := 175) iX12 x_k175 rfl (j := 0) rfl (by decide) (by decide +kernel) dX12_meanOil_34 ?_
        refine a_iconst C dX12_meanOil_37 (v := 0) (by decide) ?_
        refine a_ialdN C (k := 176) x_k176 (i := 0) rfl (by decide) (by first | decide | omega) dX12_meanOil_38 ?_
        refine a_top (y := (nI n)) hn ?_
        refine a_if_ne C dX12_meanOil_39 (tgt := 46) (by decide) (fun h39 => ?_) (fun h => False.elim (nI_ne0 h1 (by omega) h))
        refine a_iconst C dX12_meanOil_46 (v := 0) (by decide) ?_
        refine a_putI C (k := 175) iX12 tyX12_ok nmX12 x_k175 rfl (j := 12) rfl (by decide) (by decide +kernel) rfl (ty := .int) (by decide +kernel) rfl rfl dX12_meanOil_47 ?_
        refine a_aload_n C dX12_meanOil_50 2 rfl ?_
        refine a_getI C (k := 175) iX12 x_k175 rfl (j := 12) rfl (by decide) (by decide +kernel) dX12_meanOil_51 ?_
        refine a_top (y := 0) (by first | rw [x_p_at] | rfl) ?_
        refine a_if_ne C dX12_meanOil_54 (tgt := 70) (by decide) (fun h => absurd h (fun q => q rfl)) (fun h54 => ?_)
        refine a_iload_n C dX12_meanOil_57 1 rfl ?_
        refine a_top (y := nI a9) hs ?_
        refine a_i2d C dX12_meanOil_58 ?_
        refine a_aload_n C dX12_meanOil_59 2 rfl ?_
        refine a_getR C (k := 175) iX12 x_k175 rfl (j := 0) rfl (by decide) (by decide +kernel) dX12_meanOil_60 ?_
        refine a_iconst C dX12_meanOil_63 (v := 0) (by decide) ?_
        refine a_ialdN C (k := 176) x_k176 (i := 0) rfl (by decide) (by first | decide | omega) dX12_meanOil_64 ?_
        refine a_top (y := (d 176 0)) (by first | rw [x_p_ne (by omega)] | rfl) ?_
        refine a_top (y := (nI n)) hn ?_
        refine a_i2d C dX12_meanOil_65 ?_
        refine a_ddiv C (x_mn_n (by omega) h1 ha9) dX12_meanOil_66 ?_
        refine a_goto C dX12_meanOil_67 (tgt := 71) (by decide) ?_
        exact a_dret C hlocks hr dX12_meanOil_71 rfl rfl
      · skip
        have hlt := x_nge h11 hi
        refine a_iload_n C dX12_meanOil_14 1 rfl ?_
        refine a_aload_n C dX12_meanOil_15 2 rfl ?_
        refine a_getR C (k := 175) iX12 x_k175 rfl (j := 0) rfl (by decide) (by decide +kernel) dX12_meanOil_16 ?_
        refine a_bipush C dX12_meanOil_19 (v := 38) (by decide) ?_
        refine a_iload_n C dX12_meanOil_21 0 rfl ?_
        refine a_iadd C dX12_meanOil_22 ?_
        refine a_ialdN C (k := 176) x_k176 (i := 38 + i) (x_add2 (a := 38) (b := i) rfl rfl) (by omega) (by first | decide | omega) dX12_meanOil_23 ?_
        refine a_iadd C dX12_meanOil_24 ?_
        refine a_istore_n C dX12_meanOil_25 (by decide) (lst2 := [(1, .int ((f_sum (g_row (d 176) 38) i) + (d 176 (38 + i)))), (2, .int (nI i)), (0, .ref (x_b G + 175))]) rfl ?_
        refine a_iinc C dX12_meanOil_26 1 rfl (v := (nI (i + 1))) (x_inc i) (by decide) (lst2 := [(2, .int (nI (i + 1))), (1, .int ((f_sum (g_row (d 176) 38) i) + (d 176 (38 + i)))), (0, .ref (x_b G + 175))]) rfl ?_
        refine a_goto C dX12_meanOil_29 (tgt := 4) (by decide) ?_
        refine a_sub (lst2 := [(2, .int (nI (i + 1))), (1, .int ((f_sum (g_row (d 176) 38) i) + (d 176 (38 + i)))), (0, .ref (x_b G + 175))]) [0, 1, 2] rfl ?_
        exact ih (i + 1) (by omega) (by omega) 
  refine a_sub (lst2 := [(2, .int 0), (1, .int 0), (0, .ref (x_b G + 175))]) [0, 1, 2] rfl ?_
  exact L4 (n + 1) 0 (by omega) (by omega) 

set_option maxHeartbeats 1000000 in
set_option maxRecDepth 100000 in
theorem c_M_meanOil_1 (l : Launch) (G : xG) (d : xd) (hn : d 176 0 = 0) : x_M G l yX12_meanOil wsX12_meanOil 1 0 0 [.ref (x_b G + 175)] d (some (.double FP.dconst0)) (g_th d 1) := by
  have iX12 : ∀ w ∈ u_ws RX12 TX12 16, w ∈ wsX12_meanOil := by decide +kernel
  refine x_start (cc := cX12_meanOil) (maxL := 3) (ret := (some .double)) (own := RX12) (by decide) rfl rfl (Nat.le_of_ble_eq_true rfl) (lst := [(0, .ref (x_b G + 175))]) rfl ?_
  intro p e s m args below meth c C hr hlocks
  refine a_iconst C dX12_meanOil_0 (v := 0) (by decide) ?_
  refine a_istore_n C dX12_meanOil_1 (by decide) (lst2 := [(1, .int 0), (0, .ref (x_b G + 175))]) rfl ?_
  refine a_iconst C dX12_meanOil_2 (v := 0) (by decide) ?_
  refine a_istore_n C dX12_meanOil_3 (by decide) (lst2 := [(2, .int 0), (1, .int 0), (0, .ref (x_b G + 175))]) rfl ?_
  refine a_iload_n C dX12_meanOil_4 0 rfl ?_
  refine a_aload_n C dX12_meanOil_5 2 rfl ?_
  refine a_getR C (k := 175) iX12 x_k175 rfl (j := 0) rfl (by decide) (by decide +kernel) dX12_meanOil_6 ?_
  refine a_iconst C dX12_meanOil_9 (v := 0) (by decide) ?_
  refine a_ialdN C (k := 176) x_k176 (i := 0) rfl (by decide) (by first | decide | omega) dX12_meanOil_10 ?_
  refine a_top (y := 0) hn ?_
  refine a_icmp_ge C dX12_meanOil_11 (tgt := 32) (by decide) (fun _ => ?_) (fun h => absurd h (by decide))
  refine a_aload_n C dX12_meanOil_32 2 rfl ?_
  refine a_aload_n C dX12_meanOil_33 2 rfl ?_
  refine a_getR C (k := 175) iX12 x_k175 rfl (j := 0) rfl (by decide) (by decide +kernel) dX12_meanOil_34 ?_
  refine a_iconst C dX12_meanOil_37 (v := 0) (by decide) ?_
  refine a_ialdN C (k := 176) x_k176 (i := 0) rfl (by decide) (by first | decide | omega) dX12_meanOil_38 ?_
  refine a_top (y := 0) hn ?_
  refine a_if_ne C dX12_meanOil_39 (tgt := 46) (by decide) (fun h => absurd h (by decide)) (fun _ => ?_)
  refine a_iconst C dX12_meanOil_42 (v := 1) (by decide) ?_
  refine a_goto C dX12_meanOil_43 (tgt := 47) (by decide) ?_
  refine a_putI C (k := 175) iX12 tyX12_ok nmX12 x_k175 rfl (j := 12) rfl (by decide) (by decide +kernel) rfl (ty := .int) (by decide +kernel) rfl rfl dX12_meanOil_47 ?_
  refine a_aload_n C dX12_meanOil_50 2 rfl ?_
  refine a_getI C (k := 175) iX12 x_k175 rfl (j := 12) rfl (by decide) (by decide +kernel) dX12_meanOil_51 ?_
  refine a_top (y := 1) (by first | rw [x_p_at] | rfl) ?_
  refine a_if_ne C dX12_meanOil_54 (tgt := 70) (by decide) (fun h54 => ?_) (fun h => False.elim (absurd h (by decide)))
  refine a_dconst0 C dX12_meanOil_70 ?_
  exact a_dret C hlocks hr dX12_meanOil_71 rfl rfl

