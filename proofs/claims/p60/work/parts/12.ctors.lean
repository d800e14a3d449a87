theorem n_dv (cA : ClassId) (N : Nat) (ty : FieldType) (h : defaultValue ty = .int 0) : vp_cell cA (N, .inl (fun _ => 0)) = arrV cA N (fun _ => defaultValue ty) := by
  rw [vp_cell_i, h]
theorem n_zb : narrow .byte (.int 0) = .int 0 := (narrow_byte 0).trans (congrArg Value.int (by decide))
def n_sX5 (o : Nat) : List xS := [.inl (7, [none, some (o + 1), some (o + 2), some (o + 3), some (o + 4), some (o + 5), some (o + 6), some (o + 7)]), .inr (0, 8), .inr (0, 8), .inr (0, 8), .inr (2, 8), .inr (0, 8), .inr (0, 8), .inr (0, 8)]
def n_sX6 (o : Nat) : List xS := [.inl (8, [none, some (o + 1), some (o + 2), some (o + 3)]), .inr (0, 6), .inr (0, 6), .inr (0, 6)]
def n_sX2 (o : Nat) : List xS := [.inl (4, [none, none, none, none, none, none, none, none, none, none])]
def n_sX7 (o : Nat) : List xS := [.inl (9, [some (o + 1)]), .inr (2, 8)]
def n_sX1 (o : Nat) : List xS := [.inl (3, [some (o + 1), some (o + 2), some (o + 3)]), .inr (0, 8), .inr (0, 8), .inr (0, 8)]
def n_sX3 (o : Nat) : List xS := [.inl (5, [some (o + 1), none, none, none, some (o + 2), some (o + 3), some (o + 4)]), .inr (1, 60), .inr (5, 15), .inr (0, 15), .inr (0, 15)]
def n_sJ4 (o : Nat) : List xS := [.inl (1, [some (o + 1), none, none, none]), .inr (3, 16)]
set_option maxHeartbeats 1000000 in
set_option maxRecDepth 100000 in
theorem c_X5_init (l : Launch) (G : xG) (f : nF) (o : Nat) (hf : f o = .inr (7, [.int 0, .null, .null, .null, .null, .null, .null, .null])) : n_M G l yX5_init wsX5_init 1 7 56 [.ref (x_b G + o)] (o + 1) f (o + 8) (n_lay G o (n_sX5 o) f) := by
  have iX5 : ∀ w ∈ u_ws RX5 TX5 8, w ∈ wsX5_init := by decide +kernel
  refine n_start (cc := cX5_init) (maxL := 1) (own := RX5) (by decide) rfl rfl rfl (Nat.le_of_ble_eq_true rfl) (lst := [(0, .ref (x_b G + o))]) rfl ?_
  intro p e s m args below meth c C hin hr hlocks
  refine n_aload_n C dX5_init_0 0 rfl ?_
  refine n_objInit C (by decide +kernel) (by decide +kernel) (by decide +kernel) dX5_init_1 (Nat.le_of_ble_eq_true rfl) (Nat.le_of_ble_eq_true rfl) ?_
  refine n_aload_n C dX5_init_4 0 rfl ?_
  refine n_iconst C dX5_init_5 (v := 0) (by decide) ?_
  refine n_put C (k := o) (ci := 7) (fs := [.int 0, .null, .null, .null, .null, .null, .null, .null]) (fs2 := [.int 0, .null, .null, .null, .null, .null, .null, .null]) iX5 tyX5_ok nmX5 (by omega) hf rfl (j := 0) (by decide) (by decide +kernel) rfl (ty := .int) (by decide +kernel) rfl rfl (Nat.le_of_ble_eq_true rfl) rfl dX5_init_6 ?_
  refine n_aload_n C dX5_init_9 0 rfl ?_
  refine n_bipush C dX5_init_10 (v := 8) (by decide) ?_
  refine n_newa C (t := 0) (N := 8) (n2 := (o + 2)) (a0 := (.inl (fun _ => 0))) (by decide +kernel) rfl (n_dv _ _ _ rfl) (by decide) (by decide) (Nat.le_of_ble_eq_true rfl) (Nat.le_of_ble_eq_true rfl) (Nat.le_of_ble_eq_true rfl) rfl dX5_init_12 ?_
  refine n_putF C (k := o) (ci := 7) (fs := [.int 0, .null, .null, .null, .null, .null, .null, .null]) (fs2 := [.int 0, .ref (x_b G + (o + 1)), .null, .null, .null, .null, .null, .null]) iX5 tyX5_ok nmX5 (by omega) ((va_up_ne _ _ (by omega)).trans (va_up_self _ _ _)) rfl (j := 1) (by decide) (by decide +kernel) rfl hin rfl (ty := (.array .int)) (by decide +kernel) rfl rfl (Nat.le_of_ble_eq_true rfl) rfl dX5_init_14 ?_
  refine n_aload_n C dX5_init_17 0 rfl ?_
  refine n_bipush C dX5_init_18 (v := 8) (by decide) ?_
  refine n_newa C (t := 0) (N := 8) (n2 := (o + 3)) (a0 := (.inl (fun _ => 0))) (by decide +kernel) rfl (n_dv _ _ _ rfl) (by decide) (by decide) (Nat.le_of_ble_eq_true rfl) (Nat.le_of_ble_eq_true rfl) (Nat.le_of_ble_eq_true rfl) rfl dX5_init_20 ?_
  refine n_putF C (k := o) (ci := 7) (fs := [.int 0, .ref (x_b G + (o + 1)), .null, .null, .null, .null, .null, .null]) (fs2 := [.int 0, .ref (x_b G + (o + 1)), .ref (x_b G + (o + 2)), .null, .null, .null, .null, .null]) iX5 tyX5_ok nmX5 (by omega) ((va_up_ne _ _ (by omega)).trans (va_up_self _ _ _)) rfl (j := 2) (by decide) (by decide +kernel) rfl hin rfl (ty := (.array .int)) (by decide +kernel) rfl rfl (Nat.le_of_ble_eq_true rfl) rfl dX5_init_22 ?_
  refine n_aload_n C dX5_init_25 0 rfl ?_
  refine n_bipush C dX5_init_26 (v := 8) (by decide) ?_
  refine n_newa C (t := 0) (N := 8) (n2 := (o + 4)) (a0 := (.inl (fun _ => 0))) (by decide +kernel) rfl (n_dv _ _ _ rfl) (by decide) (by decide) (Nat.le_of_ble_eq_true rfl) (Nat.le_of_ble_eq_true rfl) (Nat.le_of_ble_eq_true rfl) rfl dX5_init_28 ?_
  refine n_putF C (k := o) (ci := 7) (fs := [.int 0, .ref (x_b G + (o + 1)), .ref (x_b G + (o + 2)), .null, .null, .null, .null, .null]) (fs2 := [.int 0, .ref (x_b G + (o + 1)), .ref (x_b G + (o + 2)), .ref (x_b G + (o + 3)), .null, .null, .null, .null]) iX5 tyX5_ok nmX5 (by omega) ((va_up_ne _ _ (by omega)).trans (va_up_self _ _ _)) rfl (j := 3) (by decide) (by decide +kernel) rfl hin rfl (ty := (.array .int)) (by decide +kernel) rfl rfl (Nat.le_of_ble_eq_true rfl) rfl dX5_init_30 ?_
  refine n_aload_n C dX5_init_33 0 rfl ?_
  refine n_bipush C dX5_init_34 (v := 8) (by decide) ?_
  refine n_newa C (t := 2) (N := 8) (n2 := (o + 5)) (a0 := (.inl (fun _ => 0))) (by decide +kernel) rfl (n_dv _ _ _ rfl) (by decide) (by decide) (Nat.le_of_ble_eq_true rfl) (Nat.le_of_ble_eq_true rfl) (Nat.le_of_ble_eq_true rfl) rfl dX5_init_36 ?_
  refine n_putF C (k := o) (ci := 7) (fs := [.int 0, .ref (x_b G + (o + 1)), .ref (x_b G + (o + 2)), .ref (x_b G + (o + 3)), .null, .null, .null, .null]) (fs2 := [.int 0, .ref (x_b G + (o + 1)), .ref (x_b G + (o + 2)), .ref (x_b G + (o + 3)), .ref (x_b G + (o + 4)), .null, .null, .null]) iX5 tyX5_ok nmX5 (by omega) ((va_up_ne _ _ (by omega)).trans (va_up_self _ _ _)) rfl (j := 4) (by decide) (by decide +kernel) rfl hin rfl (ty := (.array .boolean)) (by decide +kernel) rfl rfl (Nat.le_of_ble_eq_true rfl) rfl dX5_init_38 ?_
  refine n_aload_n C dX5_init_41 0 rfl ?_
  refine n_bipush C dX5_init_42 (v := 8) (by decide) ?_
  refine n_newa C (t := 0) (N := 8) (n2 := (o + 6)) (a0 := (.inl (fun _ => 0))) (by decide +kernel) rfl (n_dv _ _ _ rfl) (by decide) (by decide) (Nat.le_of_ble_eq_true rfl) (Nat.le_of_ble_eq_true rfl) (Nat.le_of_ble_eq_true rfl) rfl dX5_init_44 ?_
  refine n_putF C (k := o) (ci := 7) (fs := [.int 0, .ref (x_b G + (o + 1)), .ref (x_b G + (o + 2)), .ref (x_b G + (o + 3)), .ref (x_b G + (o + 4)), .null, .null, .null]) (fs2 := [.int 0, .ref (x_b G + (o + 1)), .ref (x_b G + (o + 2)), .ref (x_b G + (o + 3)), .ref (x_b G + (o + 4)), .ref (x_b G + (o + 5)), .null, .null]) iX5 tyX5_ok nmX5 (by omega) ((va_up_ne _ _ (by omega)).trans (va_up_self _ _ _)) rfl (j := 5) (by decide) (by decide +kernel) rfl hin rfl (ty := (.array .int)) (by decide +kernel) rfl rfl (Nat.le_of_ble_eq_true rfl) rfl dX5_init_46 ?_
  refine n_aload_n C dX5_init_49 0 rfl ?_
  refine n_bipush C dX5_init_50 (v := 8) (by decide) ?_
  refine n_newa C (t := 0) (N := 8) (n2 := (o + 7)) (a0 := (.inl (fun _ => 0))) (by decide +kernel) rfl (n_dv _ _ _ rfl) (by decide) (by decide) (Nat.le_of_ble_eq_true rfl) (Nat.le_of_ble_eq_true rfl) (Nat.le_of_ble_eq_true rfl) rfl dX5_init_52 ?_
  refine n_putF C (k := o) (ci := 7) (fs := [.int 0, .ref (x_b G + (o + 1)), .ref (x_b G + (o + 2)), .ref (x_b G + (o + 3)), .ref (x_b G + (o + 4)), .ref (x_b G + (o + 5)), .null, .null]) (fs2 := [.int 0, .ref (x_b G + (o + 1)), .ref (x_b G + (o + 2)), .ref (x_b G + (o + 3)), .ref (x_b G + (o + 4)), .ref (x_b G + (o + 5)), .ref (x_b G + (o + 6)), .null]) iX5 tyX5_ok nmX5 (by omega) ((va_up_ne _ _ (by omega)).trans (va_up_self _ _ _)) rfl (j := 6) (by decide) (by decide +kernel) rfl hin rfl (ty := (.array .int)) (by decide +kernel) rfl rfl (Nat.le_of_ble_eq_true rfl) rfl dX5_init_54 ?_
  refine n_aload_n C dX5_init_57 0 rfl ?_
  refine n_bipush C dX5_init_58 (v := 8) (by decide) ?_
  refine n_newa C (t := 0) (N := 8) (n2 := (o + 8)) (a0 := (.inl (fun _ => 0))) (by decide +kernel) rfl (n_dv _ _ _ rfl) (by decide) (by decide) (Nat.le_of_ble_eq_true rfl) (Nat.le_of_ble_eq_true rfl) (Nat.le_of_ble_eq_true rfl) rfl dX5_init_60 ?_
  refine n_putF C (k := o) (ci := 7) (fs := [.int 0, .ref (x_b G + (o + 1)), .ref (x_b G + (o + 2)), .ref (x_b G + (o + 3)), .ref (x_b G + (o + 4)), .ref (x_b G + (o + 5)), .ref (x_b G + (o + 6)), .null]) (fs2 := [.int 0, .ref (x_b G + (o + 1)), .ref (x_b G + (o + 2)), .ref (x_b G + (o + 3)), .ref (x_b G + (o + 4)), .ref (x_b G + (o + 5)), .ref (x_b G + (o + 6)), .ref (x_b G + (o + 7))]) iX5 tyX5_ok nmX5 (by omega) ((va_up_ne _ _ (by omega)).trans (va_up_self _ _ _)) rfl (j := 7) (by decide) (by decide +kernel) rfl hin rfl (ty := (.array .int)) (by decide +kernel) rfl rfl (Nat.le_of_ble_eq_true rfl) rfl dX5_init_62 ?_
  refine n_vret C hlocks hr dX5_init_65 (fun k hk => ?_)
  rcases Nat.lt_or_ge k o with h | h
  · exact (n_lay_lt h).trans ((va_up_ne _ _ (by omega)).trans ((va_up_ne _ _ (by omega)).trans ((va_up_ne _ _ (by omega)).trans ((va_up_ne _ _ (by omega)).trans ((va_up_ne _ _ (by omega)).trans ((va_up_ne _ _ (by omega)).trans ((va_up_ne _ _ (by omega)).trans ((va_up_ne _ _ (by omega)).trans ((va_up_ne _ _ (by omega)).trans ((va_up_ne _ _ (by omega)).trans ((va_up_ne _ _ (by omega)).trans ((va_up_ne _ _ (by omega)).trans ((va_up_ne _ _ (by omega)).trans ((va_up_ne _ _ (by omega)).trans ((va_up_ne _ _ (by omega)).trans (rfl))))))))))))))) : _ = f k).symm
  · rcases (show k = o + 0 ∨ k = o + 1 ∨ k = o + 2 ∨ k = o + 3 ∨ k = o + 4 ∨ k = o + 5 ∨ k = o + 6 ∨ k = o + 7 by omega) with rfl | rfl | rfl | rfl | rfl | rfl | rfl | rfl
    · exact (n_lay_at (i := 0) rfl).trans ((va_up_self _ _ _).trans (by first | rfl | (simp [x_cell, x_ar, x_bz, x_vr, x_fl]; done))).symm
    · exact (n_lay_at (i := 1) rfl).trans (((va_up_ne _ _ (by omega)).trans ((va_up_ne _ _ (by omega)).trans ((va_up_ne _ _ (by omega)).trans ((va_up_ne _ _ (by omega)).trans ((va_up_ne _ _ (by omega)).trans ((va_up_ne _ _ (by omega)).trans ((va_up_ne _ _ (by omega)).trans ((va_up_ne _ _ (by omega)).trans ((va_up_ne _ _ (by omega)).trans ((va_up_ne _ _ (by omega)).trans ((va_up_ne _ _ (by omega)).trans ((va_up_ne _ _ (by omega)).trans ((va_up_ne _ _ (by omega)).trans (va_up_self _ _ _)))))))))))))).trans (by first | rfl | (simp [x_cell, x_ar, x_bz, x_vr, x_fl]; done))).symm
    · exact (n_lay_at (i := 2) rfl).trans (((va_up_ne _ _ (by omega)).trans ((va_up_ne _ _ (by omega)).trans ((va_up_ne _ _ (by omega)).trans ((va_up_ne _ _ (by omega)).trans ((va_up_ne _ _ (by omega)).trans ((va_up_ne _ _ (by omega)).trans ((va_up_ne _ _ (by omega)).trans ((va_up_ne _ _ (by omega)).trans ((va_up_ne _ _ (by omega)).trans ((va_up_ne _ _ (by omega)).trans ((va_up_ne _ _ (by omega)).trans (va_up_self _ _ _)))))))))))).trans (by first | rfl | (simp [x_cell, x_ar, x_bz, x_vr, x_fl]; done))).symm
    · exact (n_lay_at (i := 3) rfl).trans (((va_up_ne _ _ (by omega)).trans ((va_up_ne _ _ (by omega)).trans ((va_up_ne _ _ (by omega)).trans ((va_up_ne _ _ (by omega)).trans ((va_up_ne _ _ (by omega)).trans ((va_up_ne _ _ (by omega)).trans ((va_up_ne _ _ (by omega)).trans ((va_up_ne _ _ (by omega)).trans ((va_up_ne _ _ (by omega)).trans (va_up_self _ _ _)))))))))).trans (by first | rfl | (simp [x_cell, x_ar, x_bz, x_vr, x_fl]; done))).symm
    · exact (n_lay_at (i := 4) rfl).trans (((va_up_ne _ _ (by omega)).trans ((va_up_ne _ _ (by omega)).trans ((va_up_ne _ _ (by omega)).trans ((va_up_ne _ _ (by omega)).trans ((va_up_ne _ _ (by omega)).trans ((va_up_ne _ _ (by omega)).trans ((va_up_ne _ _ (by omega)).trans (va_up_self _ _ _)))))))).trans (by first | rfl | (simp [x_cell, x_ar, x_bz, x_vr, x_fl]; done))).symm
    · exact (n_lay_at (i := 5) rfl).trans (((va_up_ne _ _ (by omega)).trans ((va_up_ne _ _ (by omega)).trans ((va_up_ne _ _ (by omega)).trans ((va_up_ne _ _ (by omega)).trans ((va_up_ne _ _ (by omega)).trans (va_up_self _ _ _)))))).trans (by first | rfl | (simp [x_cell, x_ar, x_bz, x_vr, x_fl]; done))).symm
    · exact (n_lay_at (i := 6) rfl).trans (((va_up_ne _ _ (by omega)).trans ((va_up_ne _ _ (by omega)).trans ((va_up_ne _ _ (by omega)).trans (va_up_self _ _ _)))).trans (by first | rfl | (simp [x_cell, x_ar, x_bz, x_vr, x_fl]; done))).symm
    · exact (n_lay_at (i := 7) rfl).trans (((va_up_ne _ _ (by omega)).trans (va_up_self _ _ _)).trans (by first | rfl | (simp [x_cell, x_ar, x_bz, x_vr, x_fl]; done))).symm
set_option maxHeartbeats 1000000 in
set_option maxRecDepth 100000 in
theorem c_X6_init (l : Launch) (G : xG) (f : nF) (o : Nat) (hf : f o = .inr (8, [.int 0, .null, .null, .null])) : n_M G l yX6_init wsX6_init 1 3 18 [.ref (x_b G + o)] (o + 1) f (o + 4) (n_lay G o (n_sX6 o) f) := by
  have iX6 : ∀ w ∈ u_ws RX6 TX6 4, w ∈ wsX6_init := by decide +kernel
  refine n_start (cc := cX6_init) (maxL := 1) (own := RX6) (by decide) rfl rfl rfl (Nat.le_of_ble_eq_true rfl) (lst := [(0, .ref (x_b G + o))]) rfl ?_
  intro p e s m args below meth c C hin hr hlocks
  refine n_aload_n C dX6_init_0 0 rfl ?_
  refine n_objInit C (by decide +kernel) (by decide +kernel) (by decide +kernel) dX6_init_1 (Nat.le_of_ble_eq_true rfl) (Nat.le_of_ble_eq_true rfl) ?_
  refine n_aload_n C dX6_init_4 0 rfl ?_
  refine n_iconst C dX6_init_5 (v := 0) (by decide) ?_
  refine n_put C (k := o) (ci := 8) (fs := [.int 0, .null, .null, .null]) (fs2 := [.int 0, .null, .null, .null]) iX6 tyX6_ok nmX6 (by omega) hf rfl (j := 0) (by decide) (by decide +kernel) rfl (ty := .int) (by decide +kernel) rfl rfl (Nat.le_of_ble_eq_true rfl) rfl dX6_init_6 ?_
  refine n_aload_n C dX6_init_9 0 rfl ?_
  refine n_bipush C dX6_init_10 (v := 6) (by decide) ?_
  refine n_newa C (t := 0) (N := 6) (n2 := (o + 2)) (a0 := (.inl (fun _ => 0))) (by decide +kernel) rfl (n_dv _ _ _ rfl) (by decide) (by decide) (Nat.le_of_ble_eq_true rfl) (Nat.le_of_ble_eq_true rfl) (Nat.le_of_ble_eq_true rfl) rfl dX6_init_12 ?_
  refine n_putF C (k := o) (ci := 8) (fs := [.int 0, .null, .null, .null]) (fs2 := [.int 0, .ref (x_b G + (o + 1)), .null, .null]) iX6 tyX6_ok nmX6 (by omega) ((va_up_ne _ _ (by omega)).trans (va_up_self _ _ _)) rfl (j := 1) (by decide) (by decide +kernel) rfl hin rfl (ty := (.array .int)) (by decide +kernel) rfl rfl (Nat.le_of_ble_eq_true rfl) rfl dX6_init_14 ?_
  refine n_aload_n C dX6_init_17 0 rfl ?_
  refine n_bipush C dX6_init_18 (v := 6) (by decide) ?_
  refine n_newa C (t := 0) (N := 6) (n2 := (o + 3)) (a0 := (.inl (fun _ => 0))) (by decide +kernel) rfl (n_dv _ _ _ rfl) (by decide) (by decide) (Nat.le_of_ble_eq_true rfl) (Nat.le_of_ble_eq_true rfl) (Nat.le_of_ble_eq_true rfl) rfl dX6_init_20 ?_
  refine n_putF C (k := o) (ci := 8) (fs := [.int 0, .ref (x_b G + (o + 1)), .null, .null]) (fs2 := [.int 0, .ref (x_b G + (o + 1)), .ref (x_b G + (o + 2)), .null]) iX6 tyX6_ok nmX6 (by omega) ((va_up_ne _ _ (by omega)).trans (va_up_self _ _ _)) rfl (j := 2) (by decide) (by decide +kernel) rfl hin rfl (ty := (.array .int)) (by decide +kernel) rfl rfl (Nat.le_of_ble_eq_true rfl) rfl dX6_init_22 ?_
  refine n_aload_n C dX6_init_25 0 rfl ?_
  refine n_bipush C dX6_init_26 (v := 6) (by decide) ?_
  refine n_newa C (t := 0) (N := 6) (n2 := (o + 4)) (a0 := (.inl (fun _ => 0))) (by decide +kernel) rfl (n_dv _ _ _ rfl) (by decide) (by decide) (Nat.le_of_ble_eq_true rfl) (Nat.le_of_ble_eq_true rfl) (Nat.le_of_ble_eq_true rfl) rfl dX6_init_28 ?_
  refine n_putF C (k := o) (ci := 8) (fs := [.int 0, .ref (x_b G + (o + 1)), .ref (x_b G + (o + 2)), .null]) (fs2 := [.int 0, .ref (x_b G + (o + 1)), .ref (x_b G + (o + 2)), .ref (x_b G + (o + 3))]) iX6 tyX6_ok nmX6 (by omega) ((va_up_ne _ _ (by omega)).trans (va_up_self _ _ _)) rfl (j := 3) (by decide) (by decide +kernel) rfl hin rfl (ty := (.array .int)) (by decide +kernel) rfl rfl (Nat.le_of_ble_eq_true rfl) rfl dX6_init_30 ?_
  refine n_vret C hlocks hr dX6_init_33 (fun k hk => ?_)
  rcases Nat.lt_or_ge k o with h | h
  · exact (n_lay_lt h).trans ((va_up_ne _ _ (by omega)).trans ((va_up_ne _ _ (by omega)).trans ((va_up_ne _ _ (by omega)).trans ((va_up_ne _ _ (by omega)).trans ((va_up_ne _ _ (by omega)).trans ((va_up_ne _ _ (by omega)).trans ((va_up_ne _ _ (by omega)).trans (rfl))))))) : _ = f k).symm
  · rcases (show k = o + 0 ∨ k = o + 1 ∨ k = o + 2 ∨ k = o + 3 by omega) with rfl | rfl | rfl | rfl
    · exact (n_lay_at (i := 0) rfl).trans ((va_up_self _ _ _).trans (by first | rfl | (simp [x_cell, x_ar, x_bz, x_vr, x_fl]; done))).symm
    · exact (n_lay_at (i := 1) rfl).trans (((va_up_ne _ _ (by omega)).trans ((va_up_ne _ _ (by omega)).trans ((va_up_ne _ _ (by omega)).trans ((va_up_ne _ _ (by omega)).trans ((va_up_ne _ _ (by omega)).trans (va_up_self _ _ _)))))).trans (by first | rfl | (simp [x_cell, x_ar, x_bz, x_vr, x_fl]; done))).symm
    · exact (n_lay_at (i := 2) rfl).trans (((va_up_ne _ _ (by omega)).trans ((va_up_ne _ _ (by omega)).trans ((va_up_ne _ _ (by omega)).trans (va_up_self _ _ _)))).trans (by first | rfl | (simp [x_cell, x_ar, x_bz, x_vr, x_fl]; done))).symm
    · exact (n_lay_at (i := 3) rfl).trans (((va_up_ne _ _ (by omega)).trans (va_up_self _ _ _)).trans (by first | rfl | (simp [x_cell, x_ar, x_bz, x_vr, x_fl]; done))).symm
set_option maxHeartbeats 1000000 in
set_option maxRecDepth 100000 in
theorem c_X2_init (l : Launch) (G : xG) (f : nF) (o : Nat) (hf : f o = .inr (4, [.int 0, .int 0, .int 0, .int 0, .int 0, .int 0, .int 0, .int 0, .int 0, .int 0])) : n_M G l yX2_init wsX2_init 1 0 0 [.ref (x_b G + o)] (o + 1) f (o + 1) (n_lay G o (n_sX2 o) f) := by
  have iX2 : ∀ w ∈ u_ws RX2 TX2 10, w ∈ wsX2_init := by decide +kernel
  refine n_start (cc := cX2_init) (maxL := 1) (own := RX2) (by decide) rfl rfl rfl (Nat.le_of_ble_eq_true rfl) (lst := [(0, .ref (x_b G + o))]) rfl ?_
  intro p e s m args below meth c C hin hr hlocks
  refine n_aload_n C dX2_init_0 0 rfl ?_
  refine n_objInit C (by decide +kernel) (by decide +kernel) (by decide +kernel) dX2_init_1 (Nat.le_of_ble_eq_true rfl) (Nat.le_of_ble_eq_true rfl) ?_
  refine n_aload_n C dX2_init_4 0 rfl ?_
  refine n_iconst C dX2_init_5 (v := 0) (by decide) ?_
  refine n_put C (k := o) (ci := 4) (fs := [.int 0, .int 0, .int 0, .int 0, .int 0, .int 0, .int 0, .int 0, .int 0, .int 0]) (fs2 := [.int 0, .int 0, .int 0, .int 0, .int 0, .int 0, .int 0, .int 0, .int 0, .int 0]) iX2 tyX2_ok nmX2 (by omega) hf rfl (j := 0) (by decide) (by decide +kernel) rfl (ty := .int) (by decide +kernel) rfl rfl (Nat.le_of_ble_eq_true rfl) rfl dX2_init_6 ?_
  refine n_aload_n C dX2_init_9 0 rfl ?_
  refine n_iconst C dX2_init_10 (v := 0) (by decide) ?_
  refine n_put C (k := o) (ci := 4) (fs := [.int 0, .int 0, .int 0, .int 0, .int 0, .int 0, .int 0, .int 0, .int 0, .int 0]) (fs2 := [.int 0, .int 0, .int 0, .int 0, .int 0, .int 0, .int 0, .int 0, .int 0, .int 0]) iX2 tyX2_ok nmX2 (by omega) (va_up_self _ _ _) rfl (j := 1) (by decide) (by decide +kernel) rfl (ty := .int) (by decide +kernel) rfl rfl (Nat.le_of_ble_eq_true rfl) rfl dX2_init_11 ?_
  refine n_aload_n C dX2_init_14 0 rfl ?_
  refine n_iconst C dX2_init_15 (v := 0) (by decide) ?_
  refine n_put C (k := o) (ci := 4) (fs := [.int 0, .int 0, .int 0, .int 0, .int 0, .int 0, .int 0, .int 0, .int 0, .int 0]) (fs2 := [.int 0, .int 0, .int 0, .int 0, .int 0, .int 0, .int 0, .int 0, .int 0, .int 0]) iX2 tyX2_ok nmX2 (by omega) (va_up_self _ _ _) rfl (j := 2) (by decide) (by decide +kernel) rfl (ty := .int) (by decide +kernel) rfl rfl (Nat.le_of_ble_eq_true rfl) rfl dX2_init_16 ?_
  refine n_aload_n C dX2_init_19 0 rfl ?_
  refine n_iconst C dX2_init_20 (v := 0) (by decide) ?_
  refine n_put C (k := o) (ci := 4) (fs := [.int 0, .int 0, .int 0, .int 0, .int 0, .int 0, .int 0, .int 0, .int 0, .int 0]) (fs2 := [.int 0, .int 0, .int 0, .int 0, .int 0, .int 0, .int 0, .int 0, .int 0, .int 0]) iX2 tyX2_ok nmX2 (by omega) (va_up_self _ _ _) rfl (j := 3) (by decide) (by decide +kernel) rfl (ty := .int) (by decide +kernel) rfl rfl (Nat.le_of_ble_eq_true rfl) rfl dX2_init_21 ?_
  refine n_aload_n C dX2_init_24 0 rfl ?_
  refine n_iconst C dX2_init_25 (v := 0) (by decide) ?_
  refine n_put C (k := o) (ci := 4) (fs := [.int 0, .int 0, .int 0, .int 0, .int 0, .int 0, .int 0, .int 0, .int 0, .int 0]) (fs2 := [.int 0, .int 0, .int 0, .int 0, .int 0, .int 0, .int 0, .int 0, .int 0, .int 0]) iX2 tyX2_ok nmX2 (by omega) (va_up_self _ _ _) rfl (j := 4) (by decide) (by decide +kernel) rfl (ty := .int) (by decide +kernel) rfl rfl (Nat.le_of_ble_eq_true rfl) rfl dX2_init_26 ?_
  refine n_aload_n C dX2_init_29 0 rfl ?_
  refine n_iconst C dX2_init_30 (v := 0) (by decide) ?_
  refine n_put C (k := o) (ci := 4) (fs := [.int 0, .int 0, .int 0, .int 0, .int 0, .int 0, .int 0, .int 0, .int 0, .int 0]) (fs2 := [.int 0, .int 0, .int 0, .int 0, .int 0, .int 0, .int 0, .int 0, .int 0, .int 0]) iX2 tyX2_ok nmX2 (by omega) (va_up_self _ _ _) rfl (j := 5) (by decide) (by decide +kernel) rfl (ty := .int) (by decide +kernel) rfl rfl (Nat.le_of_ble_eq_true rfl) rfl dX2_init_31 ?_
  refine n_aload_n C dX2_init_34 0 rfl ?_
  refine n_iconst C dX2_init_35 (v := 0) (by decide) ?_
  refine n_put C (k := o) (ci := 4) (fs := [.int 0, .int 0, .int 0, .int 0, .int 0, .int 0, .int 0, .int 0, .int 0, .int 0]) (fs2 := [.int 0, .int 0, .int 0, .int 0, .int 0, .int 0, .int 0, .int 0, .int 0, .int 0]) iX2 tyX2_ok nmX2 (by omega) (va_up_self _ _ _) rfl (j := 6) (by decide) (by decide +kernel) rfl (ty := .int) (by decide +kernel) rfl rfl (Nat.le_of_ble_eq_true rfl) rfl dX2_init_36 ?_
  refine n_aload_n C dX2_init_39 0 rfl ?_
  refine n_iconst C dX2_init_40 (v := 0) (by decide) ?_
  refine n_put C (k := o) (ci := 4) (fs := [.int 0, .int 0, .int 0, .int 0, .int 0, .int 0, .int 0, .int 0, .int 0, .int 0]) (fs2 := [.int 0, .int 0, .int 0, .int 0, .int 0, .int 0, .int 0, .int 0, .int 0, .int 0]) iX2 tyX2_ok nmX2 (by omega) (va_up_self _ _ _) rfl (j := 7) (by decide) (by decide +kernel) rfl (ty := .int) (by decide +kernel) rfl rfl (Nat.le_of_ble_eq_true rfl) rfl dX2_init_41 ?_
  refine n_aload_n C dX2_init_44 0 rfl ?_
  refine n_iconst C dX2_init_45 (v := 0) (by decide) ?_
  refine n_put C (k := o) (ci := 4) (fs := [.int 0, .int 0, .int 0, .int 0, .int 0, .int 0, .int 0, .int 0, .int 0, .int 0]) (fs2 := [.int 0, .int 0, .int 0, .int 0, .int 0, .int 0, .int 0, .int 0, .int 0, .int 0]) iX2 tyX2_ok nmX2 (by omega) (va_up_self _ _ _) rfl (j := 8) (by decide) (by decide +kernel) rfl (ty := .int) (by decide +kernel) rfl rfl (Nat.le_of_ble_eq_true rfl) rfl dX2_init_46 ?_
  refine n_aload_n C dX2_init_49 0 rfl ?_
  refine n_iconst C dX2_init_50 (v := 0) (by decide) ?_
  refine n_put C (k := o) (ci := 4) (fs := [.int 0, .int 0, .int 0, .int 0, .int 0, .int 0, .int 0, .int 0, .int 0, .int 0]) (fs2 := [.int 0, .int 0, .int 0, .int 0, .int 0, .int 0, .int 0, .int 0, .int 0, .int 0]) iX2 tyX2_ok nmX2 (by omega) (va_up_self _ _ _) rfl (j := 9) (by decide) (by decide +kernel) rfl (ty := .int) (by decide +kernel) rfl rfl (Nat.le_of_ble_eq_true rfl) rfl dX2_init_51 ?_
  refine n_vret C hlocks hr dX2_init_54 (fun k hk => ?_)
  rcases Nat.lt_or_ge k o with h | h
  · exact (n_lay_lt h).trans ((va_up_ne _ _ (by omega)).trans ((va_up_ne _ _ (by omega)).trans ((va_up_ne _ _ (by omega)).trans ((va_up_ne _ _ (by omega)).trans ((va_up_ne _ _ (by omega)).trans ((va_up_ne _ _ (by omega)).trans ((va_up_ne _ _ (by omega)).trans ((va_up_ne _ _ (by omega)).trans ((va_up_ne _ _ (by omega)).trans ((va_up_ne _ _ (by omega)).trans (rfl)))))))))) : _ = f k).symm
  · rcases (show k = o + 0 ∨ k = o + 0 by omega) with rfl | rfl
    · exact (n_lay_at (i := 0) rfl).trans ((va_up_self _ _ _).trans (by first | rfl | (simp [x_cell, x_ar, x_bz, x_vr, x_fl]; done))).symm
    · exact (n_lay_at (i := 0) rfl).trans ((va_up_self _ _ _).trans (by first | rfl | (simp [x_cell, x_ar, x_bz, x_vr, x_fl]; done))).symm
set_option maxHeartbeats 1000000 in
set_option maxRecDepth 100000 in
theorem c_X7_init (l : Launch) (G : xG) (f : nF) (o : Nat) (hf : f o = .inr (9, [.null])) : n_M G l yX7_init wsX7_init 1 1 8 [.ref (x_b G + o)] (o + 1) f (o + 2) (n_lay G o (n_sX7 o) f) := by
  have iX7 : ∀ w ∈ u_ws RX7 TX7 1, w ∈ wsX7_init := by decide +kernel
  refine n_start (cc := cX7_init) (maxL := 1) (own := RX7) (by decide) rfl rfl rfl (Nat.le_of_ble_eq_true rfl) (lst := [(0, .ref (x_b G + o))]) rfl ?_
  intro p e s m args below meth c C hin hr hlocks
  refine n_aload_n C dX7_init_0 0 rfl ?_
  refine n_objInit C (by decide +kernel) (by decide +kernel) (by decide +kernel) dX7_init_1 (Nat.le_of_ble_eq_true rfl) (Nat.le_of_ble_eq_true rfl) ?_
  refine n_aload_n C dX7_init_4 0 rfl ?_
  refine n_bipush C dX7_init_5 (v := 8) (by decide) ?_
  refine n_newa C (t := 2) (N := 8) (n2 := (o + 2)) (a0 := (.inl (fun _ => 0))) (by decide +kernel) rfl (n_dv _ _ _ rfl) (by decide) (by decide) (Nat.le_of_ble_eq_true rfl) (Nat.le_of_ble_eq_true rfl) (Nat.le_of_ble_eq_true rfl) rfl dX7_init_7 ?_
  refine n_putF C (k := o) (ci := 9) (fs := [.null]) (fs2 := [.ref (x_b G + (o + 1))]) iX7 tyX7_ok nmX7 (by omega) ((va_up_ne _ _ (by omega)).trans hf) rfl (j := 0) (by decide) (by decide +kernel) rfl hin rfl (ty := (.array .boolean)) (by decide +kernel) rfl rfl (Nat.le_of_ble_eq_true rfl) rfl dX7_init_9 ?_
  refine n_vret C hlocks hr dX7_init_12 (fun k hk => ?_)
  rcases Nat.lt_or_ge k o with h | h
  · exact (n_lay_lt h).trans ((va_up_ne _ _ (by omega)).trans ((va_up_ne _ _ (by omega)).trans (rfl)) : _ = f k).symm
  · rcases (show k = o + 0 ∨ k = o + 1 by omega) with rfl | rfl
    · exact (n_lay_at (i := 0) rfl).trans ((va_up_self _ _ _).trans (by first | rfl | (simp [x_cell, x_ar, x_bz, x_vr, x_fl]; done))).symm
    · exact (n_lay_at (i := 1) rfl).trans (((va_up_ne _ _ (by omega)).trans (va_up_self _ _ _)).trans (by first | rfl | (simp [x_cell, x_ar, x_bz, x_vr, x_fl]; done))).symm
set_option maxHeartbeats 1000000 in
set_option maxRecDepth 100000 in
theorem c_X1_init (l : Launch) (G : xG) (f : nF) (o : Nat) (hf : f o = .inr (3, [.null, .null, .null])) : n_M G l yX1_init wsX1_init 1 3 24 [.ref (x_b G + o)] (o + 1) f (o + 4) (n_lay G o (n_sX1 o) f) := by
  have iX1 : ∀ w ∈ u_ws RX1 TX1 3, w ∈ wsX1_init := by decide +kernel
  refine n_start (cc := cX1_init) (maxL := 1) (own := RX1) (by decide) rfl rfl rfl (Nat.le_of_ble_eq_true rfl) (lst := [(0, .ref (x_b G + o))]) rfl ?_
  intro p e s m args below meth c C hin hr hlocks
  refine n_aload_n C dX1_init_0 0 rfl ?_
  refine n_objInit C (by decide +kernel) (by decide +kernel) (by decide +kernel) dX1_init_1 (Nat.le_of_ble_eq_true rfl) (Nat.le_of_ble_eq_true rfl) ?_
  refine n_aload_n C dX1_init_4 0 rfl ?_
  refine n_bipush C dX1_init_5 (v := 8) (by decide) ?_
  refine n_newa C (t := 0) (N := 8) (n2 := (o + 2)) (a0 := (.inl (fun _ => 0))) (by decide +kernel) rfl (n_dv _ _ _ rfl) (by decide) (by decide) (Nat.le_of_ble_eq_true rfl) (Nat.le_of_ble_eq_true rfl) (Nat.le_of_ble_eq_true rfl) rfl dX1_init_7 ?_
  refine n_putF C (k := o) (ci := 3) (fs := [.null, .null, .null]) (fs2 := [.ref (x_b G + (o + 1)), .null, .null]) iX1 tyX1_ok nmX1 (by omega) ((va_up_ne _ _ (by omega)).trans hf) rfl (j := 0) (by decide) (by decide +kernel) rfl hin rfl (ty := (.array .int)) (by decide +kernel) rfl rfl (Nat.le_of_ble_eq_true rfl) rfl dX1_init_9 ?_
  refine n_aload_n C dX1_init_12 0 rfl ?_
  refine n_bipush C dX1_init_13 (v := 8) (by decide) ?_
  refine n_newa C (t := 0) (N := 8) (n2 := (o + 3)) (a0 := (.inl (fun _ => 0))) (by decide +kernel) rfl (n_dv _ _ _ rfl) (by decide) (by decide) (Nat.le_of_ble_eq_true rfl) (Nat.le_of_ble_eq_true rfl) (Nat.le_of_ble_eq_true rfl) rfl dX1_init_15 ?_
  refine n_putF C (k := o) (ci := 3) (fs := [.ref (x_b G + (o + 1)), .null, .null]) (fs2 := [.ref (x_b G + (o + 1)), .ref (x_b G + (o + 2)), .null]) iX1 tyX1_ok nmX1 (by omega) ((va_up_ne _ _ (by omega)).trans (va_up_self _ _ _)) rfl (j := 1) (by decide) (by decide +kernel) rfl hin rfl (ty := (.array .int)) (by decide +kernel) rfl rfl (Nat.le_of_ble_eq_true rfl) rfl dX1_init_17 ?_
  refine n_aload_n C dX1_init_20 0 rfl ?_
  refine n_bipush C dX1_init_21 (v := 8) (by decide) ?_
  refine n_newa C (t := 0) (N := 8) (n2 := (o + 4)) (a0 := (.inl (fun _ => 0))) (by decide +kernel) rfl (n_dv _ _ _ rfl) (by decide) (by decide) (Nat.le_of_ble_eq_true rfl) (Nat.le_of_ble_eq_true rfl) (Nat.le_of_ble_eq_true rfl) rfl dX1_init_23 ?_
  refine n_putF C (k := o) (ci := 3) (fs := [.ref (x_b G + (o + 1)), .ref (x_b G + (o + 2)), .null]) (fs2 := [.ref (x_b G + (o + 1)), .ref (x_b G + (o + 2)), .ref (x_b G + (o + 3))]) iX1 tyX1_ok nmX1 (by omega) ((va_up_ne _ _ (by omega)).trans (va_up_self _ _ _)) rfl (j := 2) (by decide) (by decide +kernel) rfl hin rfl (ty := (.array .int)) (by decide +kernel) rfl rfl (Nat.le_of_ble_eq_true rfl) rfl dX1_init_25 ?_
  refine n_vret C hlocks hr dX1_init_28 (fun k hk => ?_)
  rcases Nat.lt_or_ge k o with h | h
  · exact (n_lay_lt h).trans ((va_up_ne _ _ (by omega)).trans ((va_up_ne _ _ (by omega)).trans ((va_up_ne _ _ (by omega)).trans ((va_up_ne _ _ (by omega)).trans ((va_up_ne _ _ (by omega)).trans ((va_up_ne _ _ (by omega)).trans (rfl)))))) : _ = f k).symm
  · rcases (show k = o + 0 ∨ k = o + 1 ∨ k = o + 2 ∨ k = o + 3 by omega) with rfl | rfl | rfl | rfl
    · exact (n_lay_at (i := 0) rfl).trans ((va_up_self _ _ _).trans (by first | rfl | (simp [x_cell, x_ar, x_bz, x_vr, x_fl]; done))).symm
    · exact (n_lay_at (i := 1) rfl).trans (((va_up_ne _ _ (by omega)).trans ((va_up_ne _ _ (by omega)).trans ((va_up_ne _ _ (by omega)).trans ((va_up_ne _ _ (by omega)).trans ((va_up_ne _ _ (by omega)).trans (va_up_self _ _ _)))))).trans (by first | rfl | (simp [x_cell, x_ar, x_bz, x_vr, x_fl]; done))).symm
    · exact (n_lay_at (i := 2) rfl).trans (((va_up_ne _ _ (by omega)).trans ((va_up_ne _ _ (by omega)).trans ((va_up_ne _ _ (by omega)).trans (va_up_self _ _ _)))).trans (by first | rfl | (simp [x_cell, x_ar, x_bz, x_vr, x_fl]; done))).symm
    · exact (n_lay_at (i := 3) rfl).trans (((va_up_ne _ _ (by omega)).trans (va_up_self _ _ _)).trans (by first | rfl | (simp [x_cell, x_ar, x_bz, x_vr, x_fl]; done))).symm
set_option maxHeartbeats 1000000 in
set_option maxRecDepth 100000 in
theorem c_X3_init (l : Launch) (G : xG) (f : nF) (o : Nat) (hf : f o = .inr (5, [.null, .int 0, .int 0, .int 0, .null, .null, .null])) : n_M G l yX3_init wsX3_init 1 4 105 [.ref (x_b G + o)] (o + 1) f (o + 5) (n_lay G o (n_sX3 o) f) := by
  have iX3 : ∀ w ∈ u_ws RX3 TX3 7, w ∈ wsX3_init := by decide +kernel
  refine n_start (cc := cX3_init) (maxL := 1) (own := RX3) (by decide) rfl rfl rfl (Nat.le_of_ble_eq_true rfl) (lst := [(0, .ref (x_b G + o))]) rfl ?_
  intro p e s m args below meth c C hin hr hlocks
  refine n_aload_n C dX3_init_0 0 rfl ?_
  refine n_objInit C (by decide +kernel) (by decide +kernel) (by decide +kernel) dX3_init_1 (Nat.le_of_ble_eq_true rfl) (Nat.le_of_ble_eq_true rfl) ?_
  refine n_aload_n C dX3_init_4 0 rfl ?_
  refine n_bipush C dX3_init_5 (v := 60) (by decide) ?_
  refine n_newa C (t := 1) (N := 60) (n2 := (o + 2)) (a0 := (.inl (fun _ => 0))) (by decide +kernel) rfl (n_dv _ _ _ rfl) (by decide) (by decide) (Nat.le_of_ble_eq_true rfl) (Nat.le_of_ble_eq_true rfl) (Nat.le_of_ble_eq_true rfl) rfl dX3_init_7 ?_
  refine n_putF C (k := o) (ci := 5) (fs := [.null, .int 0, .int 0, .int 0, .null, .null, .null]) (fs2 := [.ref (x_b G + (o + 1)), .int 0, .int 0, .int 0, .null, .null, .null]) iX3 tyX3_ok nmX3 (by omega) ((va_up_ne _ _ (by omega)).trans hf) rfl (j := 0) (by decide) (by decide +kernel) rfl hin rfl (ty := (.array .char)) (by decide +kernel) rfl rfl (Nat.le_of_ble_eq_true rfl) rfl dX3_init_9 ?_
  refine n_aload_n C dX3_init_12 0 rfl ?_
  refine n_iconst C dX3_init_13 (v := 0) (by decide) ?_
  refine n_put C (k := o) (ci := 5) (fs := [.ref (x_b G + (o + 1)), .int 0, .int 0, .int 0, .null, .null, .null]) (fs2 := [.ref (x_b G + (o + 1)), .int 0, .int 0, .int 0, .null, .null, .null]) iX3 tyX3_ok nmX3 (by omega) (va_up_self _ _ _) rfl (j := 1) (by decide) (by decide +kernel) rfl (ty := .int) (by decide +kernel) rfl rfl (Nat.le_of_ble_eq_true rfl) rfl dX3_init_14 ?_
  refine n_aload_n C dX3_init_17 0 rfl ?_
  refine n_iconst C dX3_init_18 (v := 0) (by decide) ?_
  refine n_put C (k := o) (ci := 5) (fs := [.ref (x_b G + (o + 1)), .int 0, .int 0, .int 0, .null, .null, .null]) (fs2 := [.ref (x_b G + (o + 1)), .int 0, .int 0, .int 0, .null, .null, .null]) iX3 tyX3_ok nmX3 (by omega) (va_up_self _ _ _) rfl (j := 2) (by decide) (by decide +kernel) rfl (ty := .int) (by decide +kernel) rfl rfl (Nat.le_of_ble_eq_true rfl) rfl dX3_init_19 ?_
  refine n_aload_n C dX3_init_22 0 rfl ?_
  refine n_iconst C dX3_init_23 (v := 0) (by decide) ?_
  refine n_put C (k := o) (ci := 5) (fs := [.ref (x_b G + (o + 1)), .int 0, .int 0, .int 0, .null, .null, .null]) (fs2 := [.ref (x_b G + (o + 1)), .int 0, .int 0, .int 0, .null, .null, .null]) iX3 tyX3_ok nmX3 (by omega) (va_up_self _ _ _) rfl (j := 3) (by decide) (by decide +kernel) rfl (ty := .int) (by decide +kernel) rfl rfl (Nat.le_of_ble_eq_true rfl) rfl dX3_init_24 ?_
  refine n_aload_n C dX3_init_27 0 rfl ?_
  refine n_bipush C dX3_init_28 (v := 15) (by decide) ?_
  refine n_newq C (Cn := "LampCooperative$Verb") (t := 5) (N := 15) (n2 := (o + 3)) (by decide +kernel) C.2.2.2.2 rfl (by decide) (by decide) (Nat.le_of_ble_eq_true rfl) (Nat.le_of_ble_eq_true rfl) (Nat.le_of_ble_eq_true rfl) rfl dX3_init_30 ?_
  refine n_putF C (k := o) (ci := 5) (fs := [.ref (x_b G + (o + 1)), .int 0, .int 0, .int 0, .null, .null, .null]) (fs2 := [.ref (x_b G + (o + 1)), .int 0, .int 0, .int 0, .ref (x_b G + (o + 2)), .null, .null]) iX3 tyX3_ok nmX3 (by omega) ((va_up_ne _ _ (by omega)).trans (va_up_self _ _ _)) rfl (j := 4) (by decide) (by decide +kernel) rfl hin rfl (ty := (.array (.object "LampCooperative$Verb"))) (by decide +kernel) rfl rfl (Nat.le_of_ble_eq_true rfl) rfl dX3_init_33 ?_
  refine n_aload_n C dX3_init_36 0 rfl ?_
  refine n_bipush C dX3_init_37 (v := 15) (by decide) ?_
  refine n_newa C (t := 0) (N := 15) (n2 := (o + 4)) (a0 := (.inl (fun _ => 0))) (by decide +kernel) rfl (n_dv _ _ _ rfl) (by decide) (by decide) (Nat.le_of_ble_eq_true rfl) (Nat.le_of_ble_eq_true rfl) (Nat.le_of_ble_eq_true rfl) rfl dX3_init_39 ?_
  refine n_putF C (k := o) (ci := 5) (fs := [.ref (x_b G + (o + 1)), .int 0, .int 0, .int 0, .ref (x_b G + (o + 2)), .null, .null]) (fs2 := [.ref (x_b G + (o + 1)), .int 0, .int 0, .int 0, .ref (x_b G + (o + 2)), .ref (x_b G + (o + 3)), .null]) iX3 tyX3_ok nmX3 (by omega) ((va_up_ne _ _ (by omega)).trans (va_up_self _ _ _)) rfl (j := 5) (by decide) (by decide +kernel) rfl hin rfl (ty := (.array .int)) (by decide +kernel) rfl rfl (Nat.le_of_ble_eq_true rfl) rfl dX3_init_41 ?_
  refine n_aload_n C dX3_init_44 0 rfl ?_
  refine n_bipush C dX3_init_45 (v := 15) (by decide) ?_
  refine n_newa C (t := 0) (N := 15) (n2 := (o + 5)) (a0 := (.inl (fun _ => 0))) (by decide +kernel) rfl (n_dv _ _ _ rfl) (by decide) (by decide) (Nat.le_of_ble_eq_true rfl) (Nat.le_of_ble_eq_true rfl) (Nat.le_of_ble_eq_true rfl) rfl dX3_init_47 ?_
  refine n_putF C (k := o) (ci := 5) (fs := [.ref (x_b G + (o + 1)), .int 0, .int 0, .int 0, .ref (x_b G + (o + 2)), .ref (x_b G + (o + 3)), .null]) (fs2 := [.ref (x_b G + (o + 1)), .int 0, .int 0, .int 0, .ref (x_b G + (o + 2)), .ref (x_b G + (o + 3)), .ref (x_b G + (o + 4))]) iX3 tyX3_ok nmX3 (by omega) ((va_up_ne _ _ (by omega)).trans (va_up_self _ _ _)) rfl (j := 6) (by decide) (by decide +kernel) rfl hin rfl (ty := (.array .int)) (by decide +kernel) rfl rfl (Nat.le_of_ble_eq_true rfl) rfl dX3_init_49 ?_
  refine n_vret C hlocks hr dX3_init_52 (fun k hk => ?_)
  rcases Nat.lt_or_ge k o with h | h
  · exact (n_lay_lt h).trans ((va_up_ne _ _ (by omega)).trans ((va_up_ne _ _ (by omega)).trans ((va_up_ne _ _ (by omega)).trans ((va_up_ne _ _ (by omega)).trans ((va_up_ne _ _ (by omega)).trans ((va_up_ne _ _ (by omega)).trans ((va_up_ne _ _ (by omega)).trans ((va_up_ne _ _ (by omega)).trans ((va_up_ne _ _ (by omega)).trans ((va_up_ne _ _ (by omega)).trans ((va_up_ne _ _ (by omega)).trans (rfl))))))))))) : _ = f k).symm
  · rcases (show k = o + 0 ∨ k = o + 1 ∨ k = o + 2 ∨ k = o + 3 ∨ k = o + 4 by omega) with rfl | rfl | rfl | rfl | rfl
    · exact (n_lay_at (i := 0) rfl).trans ((va_up_self _ _ _).trans (by first | rfl | (simp [x_cell, x_ar, x_bz, x_vr, x_fl]; done))).symm
    · exact (n_lay_at (i := 1) rfl).trans (((va_up_ne _ _ (by omega)).trans ((va_up_ne _ _ (by omega)).trans ((va_up_ne _ _ (by omega)).trans ((va_up_ne _ _ (by omega)).trans ((va_up_ne _ _ (by omega)).trans ((va_up_ne _ _ (by omega)).trans ((va_up_ne _ _ (by omega)).trans ((va_up_ne _ _ (by omega)).trans ((va_up_ne _ _ (by omega)).trans ((va_up_ne _ _ (by omega)).trans (va_up_self _ _ _))))))))))).trans (by first | rfl | (simp [x_cell, x_ar, x_bz, x_vr, x_fl]; done))).symm
    · exact (n_lay_at (i := 2) rfl).trans (((va_up_ne _ _ (by omega)).trans ((va_up_ne _ _ (by omega)).trans ((va_up_ne _ _ (by omega)).trans ((va_up_ne _ _ (by omega)).trans ((va_up_ne _ _ (by omega)).trans (va_up_self _ _ _)))))).trans (by first | rfl | (simp [x_cell, x_ar, x_bz, x_vr, x_fl]; done))).symm
    · exact (n_lay_at (i := 3) rfl).trans (((va_up_ne _ _ (by omega)).trans ((va_up_ne _ _ (by omega)).trans ((va_up_ne _ _ (by omega)).trans (va_up_self _ _ _)))).trans (by first | rfl | (simp [x_cell, x_ar, x_bz, x_vr, x_fl]; done))).symm
    · exact (n_lay_at (i := 4) rfl).trans (((va_up_ne _ _ (by omega)).trans (va_up_self _ _ _)).trans (by first | rfl | (simp [x_cell, x_ar, x_bz, x_vr, x_fl]; done))).symm
set_option maxHeartbeats 1000000 in
set_option maxRecDepth 100000 in
theorem c_J5_init_d00df (l : Launch) (G : xG) (f : nF) (o : Nat) (hf : f o = .inr (1, [.null, .int 0, .int 0, .int 0])) : n_M G l yJ5_init_d00df wsJ5_init_d00df 1 1 16 [.ref (x_b G + o), .int 16] (o + 1) f (o + 2) (n_lay G o (n_sJ4 o) f) := by
  have iJ4 : ∀ w ∈ u_ws RJ4 TJ4 4, w ∈ wsJ5_init_d00df := by decide +kernel
  refine n_start (cc := cJ5_init_d00df) (maxL := 2) (own := RJ5) (by decide) rfl rfl rfl (Nat.le_of_ble_eq_true rfl) (lst := [(0, .ref (x_b G + o)), (1, .int 16)]) rfl ?_
  intro p e s m args below meth c C hin hr hlocks
  refine n_aload_n C dJ5_init_d00df_0 0 rfl ?_
  refine n_objInit C (by decide +kernel) (by decide +kernel) (by decide +kernel) dJ5_init_d00df_1 (Nat.le_of_ble_eq_true rfl) (Nat.le_of_ble_eq_true rfl) ?_
  refine n_getsCS C (by decide +kernel) dJ5_init_d00df_4 ?_
  refine n_if_eq C dJ5_init_d00df_7 (tgt := 25) (by decide) (fun h => absurd h (by decide)) (fun _ => ?_)
  refine n_aload_n C dJ5_init_d00df_10 0 rfl ?_
  refine n_iload_n C dJ5_init_d00df_11 1 rfl ?_
  refine n_newa C (t := 3) (N := 16) (n2 := (o + 2)) (a0 := (.inl (fun _ => 0))) (by decide +kernel) rfl (n_dv _ _ _ rfl) (by decide) (by decide) (Nat.le_of_ble_eq_true rfl) (Nat.le_of_ble_eq_true rfl) (Nat.le_of_ble_eq_true rfl) rfl dJ5_init_d00df_12 ?_
  refine n_put C (k := o) (ci := 1) (fs := [.null, .int 0, .int 0, .int 0]) (fs2 := [.ref (x_b G + (o + 1)), .int 0, .int 0, .int 0]) iJ4 tyJ4_ok nmJ4 (by omega) ((va_up_ne _ _ (by omega)).trans hf) rfl (j := 0) (by decide) (by decide +kernel) rfl (ty := (.array .byte)) (by decide +kernel) rfl rfl (Nat.le_of_ble_eq_true rfl) rfl dJ5_init_d00df_14 ?_
  refine n_aload_n C dJ5_init_d00df_17 0 rfl ?_
  refine n_iconst C dJ5_init_d00df_18 (v := 0) (by decide) ?_
  refine n_put C (k := o) (ci := 1) (fs := [.ref (x_b G + (o + 1)), .int 0, .int 0, .int 0]) (fs2 := [.ref (x_b G + (o + 1)), .int 0, .int 0, .int 0]) iJ4 tyJ4_ok nmJ4 (by omega) (va_up_self _ _ _) rfl (j := 1) (by decide) (by decide +kernel) rfl (ty := .byte) (by decide +kernel) n_zb rfl (Nat.le_of_ble_eq_true rfl) rfl dJ5_init_d00df_19 ?_
  refine n_goto C dJ5_init_d00df_22 (tgt := 38) (by decide) ?_
  refine n_vret C hlocks hr dJ5_init_d00df_38 (fun k hk => ?_)
  rcases Nat.lt_or_ge k o with h | h
  · exact (n_lay_lt h).trans ((va_up_ne _ _ (by omega)).trans ((va_up_ne _ _ (by omega)).trans ((va_up_ne _ _ (by omega)).trans (rfl))) : _ = f k).symm
  · rcases (show k = o + 0 ∨ k = o + 1 by omega) with rfl | rfl
    · exact (n_lay_at (i := 0) rfl).trans ((va_up_self _ _ _).trans (by first | rfl | (simp [x_cell, x_ar, x_bz, x_vr, x_fl]; done))).symm
    · exact (n_lay_at (i := 1) rfl).trans (((va_up_ne _ _ (by omega)).trans ((va_up_ne _ _ (by omega)).trans (va_up_self _ _ _))).trans (by first | rfl | (simp [x_cell, x_ar, x_bz, x_vr, x_fl]; done))).symm
set_option maxHeartbeats 1000000 in
set_option maxRecDepth 100000 in
theorem c_J4_init_da8c8 (l : Launch) (G : xG) (f : nF) (o : Nat) (hf : f o = .inr (1, [.null, .int 0, .int 0, .int 0])) : n_M G l yJ4_init_da8c8 wsJ4_init_da8c8 2 1 16 [.ref (x_b G + o)] (o + 1) f (o + 2) (n_lay G o (n_sJ4 o) f) := by
  refine n_start (cc := cJ4_init_da8c8) (maxL := 1) (own := RJ4) (by decide) rfl rfl rfl (Nat.le_of_ble_eq_true rfl) (lst := [(0, .ref (x_b G + o))]) rfl ?_
  intro p e s m args below meth c C hin hr hlocks
  refine n_aload_n C dJ4_init_da8c8_0 0 rfl ?_
  refine n_bipush C dJ4_init_da8c8_1 (v := 16) (by decide) ?_
  refine n_callI C (As := [.int 16]) (k := o) (rest := []) (n2 := (o + 2)) (c_J5_init_d00df l G _ o hf) (cwI 1 C.1.1.2.2.2.2 gJ4_init_da8c8_J5_init_d00df rfl rfl rfl (C.1.1.2.2.2.2 (.initialized RJ5) (by decide +kernel)) (C.1.1.2.2.2.2 (.methodLink RJ4 1 yJ5_init_d00df) (by decide +kernel)) (C.1.1.2.2.2.2 (.instanceMethod yJ5_init_d00df) (by decide +kernel)) rfl (by decide +kernel) ⟨Nat.le_of_ble_eq_true rfl, Nat.le_of_ble_eq_true rfl⟩) rfl rfl (Nat.le_of_ble_eq_true rfl) dJ4_init_da8c8_3 ⟨Nat.le_of_ble_eq_true rfl, Nat.le_of_ble_eq_true rfl⟩ ?_
  exact n_vret C hlocks hr dJ4_init_da8c8_6 (fun k hk => rfl)
set_option maxHeartbeats 1000000 in
set_option maxRecDepth 100000 in
theorem c_X9_init (l : Launch) (G : xG) (f : nF) (o : Nat) (hf : f o = .inr (10, [.null, .null, .null])) : n_M G l yX9_init wsX9_init 2 13 96 [.ref (x_b G + o)] (o + 1) f (o + 14) (n_lay G o (x_so o) f) := by
  have iX2 : ∀ w ∈ u_ws RX2 TX2 10, w ∈ wsX9_init := by decide +kernel
  have iX5 : ∀ w ∈ u_ws RX5 TX5 8, w ∈ wsX9_init := by decide +kernel
  have iX6 : ∀ w ∈ u_ws RX6 TX6 4, w ∈ wsX9_init := by decide +kernel
  have iX9 : ∀ w ∈ u_ws RX9 TX9 3, w ∈ wsX9_init := by decide +kernel
  refine n_start (cc := cX9_init) (maxL := 1) (own := RX9) (by decide) rfl rfl rfl (Nat.le_of_ble_eq_true rfl) (lst := [(0, .ref (x_b G + o))]) rfl ?_
  intro p e s m args below meth c C hin hr hlocks
  refine n_aload_n C dX9_init_0 0 rfl ?_
  refine n_objInit C (by decide +kernel) (by decide +kernel) (by decide +kernel) dX9_init_1 (Nat.le_of_ble_eq_true rfl) (Nat.le_of_ble_eq_true rfl) ?_
  refine n_aload_n C dX9_init_4 0 rfl ?_
  refine n_new C (ci := 7) (fs := [.int 0, .null, .null, .null, .null, .null, .null, .null]) (n2 := (o + 2)) iX5 tyX5 tyX5_ok (by decide +kernel) (by decide +kernel) (by decide +kernel) rfl (fun j hj => by rcases (show j = 0 ∨ j = 1 ∨ j = 2 ∨ j = 3 ∨ j = 4 ∨ j = 5 ∨ j = 6 ∨ j = 7 by omega) with rfl | rfl | rfl | rfl | rfl | rfl | rfl | rfl <;> rfl) (Nat.le_of_ble_eq_true rfl) (Nat.le_of_ble_eq_true rfl) rfl dX9_init_5 ?_
  refine n_dup C dX9_init_8 rfl ?_
  refine n_callN C (As := []) (k := (o + 1)) (rest := [.ref (x_b G + (o + 1)), .ref (x_b G + o)]) (n2 := (o + 9)) (c_X5_init l G _ (o + 1) (va_up_self _ _ _)) ⟨va_cnB 0 C.1.1.2.2.2.2 gX9_init_X5_init_n11 rfl rfl rfl (C.2.2.1 (RX9, 11, yX5_init) (by decide +kernel)) (C.1.1.2.2.2.2 (.initialized RX5) (by decide +kernel)) (by decide +kernel) ⟨Nat.le_of_ble_eq_true rfl, Nat.le_of_ble_eq_true rfl⟩, rfl, C.1.1.2.2.2.2 (.instanceMethod yX5_init) (by decide +kernel)⟩ rfl rfl (Nat.le_of_ble_eq_true rfl) dX9_init_9 ⟨Nat.le_of_ble_eq_true rfl, Nat.le_of_ble_eq_true rfl⟩ ?_
  refine n_putF C (k := o) (ci := 10) (fs := [.null, .null, .null]) (fs2 := [.ref (x_b G + (o + 1)), .null, .null]) iX9 tyX9_ok nmX9 (by omega) ((n_lay_lt (by omega)).trans ((va_up_ne _ _ (by omega)).trans hf)) rfl (j := 0) (by decide) (by decide +kernel) rfl hin rfl (ty := (.object "LampCooperative$Lamps")) (by decide +kernel) rfl rfl (Nat.le_of_ble_eq_true rfl) rfl dX9_init_12 ?_
  refine n_aload_n C dX9_init_15 0 rfl ?_
  refine n_new C (ci := 8) (fs := [.int 0, .null, .null, .null]) (n2 := (o + 10)) iX6 tyX6 tyX6_ok (by decide +kernel) (by decide +kernel) (by decide +kernel) rfl (fun j hj => by rcases (show j = 0 ∨ j = 1 ∨ j = 2 ∨ j = 3 by omega) with rfl | rfl | rfl | rfl <;> rfl) (Nat.le_of_ble_eq_true rfl) (Nat.le_of_ble_eq_true rfl) rfl dX9_init_16 ?_
  refine n_dup C dX9_init_19 rfl ?_
  refine n_callN C (As := []) (k := (o + 9)) (rest := [.ref (x_b G + (o + 9)), .ref (x_b G + o)]) (n2 := (o + 13)) (c_X6_init l G _ (o + 9) (va_up_self _ _ _)) ⟨va_cnB 0 C.1.1.2.2.2.2 gX9_init_X6_init_n20 rfl rfl rfl (C.2.2.1 (RX9, 20, yX6_init) (by decide +kernel)) (C.1.1.2.2.2.2 (.initialized RX6) (by decide +kernel)) (by decide +kernel) ⟨Nat.le_of_ble_eq_true rfl, Nat.le_of_ble_eq_true rfl⟩, rfl, C.1.1.2.2.2.2 (.instanceMethod yX6_init) (by decide +kernel)⟩ rfl rfl (Nat.le_of_ble_eq_true rfl) dX9_init_20 ⟨Nat.le_of_ble_eq_true rfl, Nat.le_of_ble_eq_true rfl⟩ ?_
  refine n_putF C (k := o) (ci := 10) (fs := [.ref (x_b G + (o + 1)), .null, .null]) (fs2 := [.ref (x_b G + (o + 1)), .ref (x_b G + (o + 9)), .null]) iX9 tyX9_ok nmX9 (by omega) ((n_lay_lt (by omega)).trans ((va_up_ne _ _ (by omega)).trans (va_up_self _ _ _))) rfl (j := 1) (by decide) (by decide +kernel) rfl hin rfl (ty := (.object "LampCooperative$Moths")) (by decide +kernel) rfl rfl (Nat.le_of_ble_eq_true rfl) rfl dX9_init_23 ?_
  refine n_aload_n C dX9_init_26 0 rfl ?_
  refine n_new C (ci := 4) (fs := [.int 0, .int 0, .int 0, .int 0, .int 0, .int 0, .int 0, .int 0, .int 0, .int 0]) (n2 := (o + 14)) iX2 tyX2 tyX2_ok (by decide +kernel) (by decide +kernel) (by decide +kernel) rfl (fun j hj => by rcases (show j = 0 ∨ j = 1 ∨ j = 2 ∨ j = 3 ∨ j = 4 ∨ j = 5 ∨ j = 6 ∨ j = 7 ∨ j = 8 ∨ j = 9 by omega) with rfl | rfl | rfl | rfl | rfl | rfl | rfl | rfl | rfl | rfl <;> rfl) (Nat.le_of_ble_eq_true rfl) (Nat.le_of_ble_eq_true rfl) rfl dX9_init_27 ?_
  refine n_dup C dX9_init_30 rfl ?_
  refine n_callN C (As := []) (k := (o + 13)) (rest := [.ref (x_b G + (o + 13)), .ref (x_b G + o)]) (n2 := (o + 14)) (c_X2_init l G _ (o + 13) (va_up_self _ _ _)) ⟨va_cnB 0 C.1.1.2.2.2.2 gX9_init_X2_init_n27 rfl rfl rfl (C.2.2.1 (RX9, 27, yX2_init) (by decide +kernel)) (C.1.1.2.2.2.2 (.initialized RX2) (by decide +kernel)) (by decide +kernel) ⟨Nat.le_of_ble_eq_true rfl, Nat.le_of_ble_eq_true rfl⟩, rfl, C.1.1.2.2.2.2 (.instanceMethod yX2_init) (by decide +kernel)⟩ rfl rfl (Nat.le_of_ble_eq_true rfl) dX9_init_31 ⟨Nat.le_of_ble_eq_true rfl, Nat.le_of_ble_eq_true rfl⟩ ?_
  refine n_putF C (k := o) (ci := 10) (fs := [.ref (x_b G + (o + 1)), .ref (x_b G + (o + 9)), .null]) (fs2 := [.ref (x_b G + (o + 1)), .ref (x_b G + (o + 9)), .ref (x_b G + (o + 13))]) iX9 tyX9_ok nmX9 (by omega) ((n_lay_lt (by omega)).trans ((va_up_ne _ _ (by omega)).trans (va_up_self _ _ _))) rfl (j := 2) (by decide) (by decide +kernel) rfl hin rfl (ty := (.object "LampCooperative$Books")) (by decide +kernel) rfl rfl (Nat.le_of_ble_eq_true rfl) rfl dX9_init_34 ?_
  refine n_vret C hlocks hr dX9_init_37 (fun k hk => ?_)
  rcases Nat.lt_or_ge k o with h | h
  · exact (n_lay_lt h).trans ((va_up_ne _ _ (by omega)).trans ((n_lay_lt (by omega)).trans ((va_up_ne _ _ (by omega)).trans ((va_up_ne _ _ (by omega)).trans ((n_lay_lt (by omega)).trans ((va_up_ne _ _ (by omega)).trans ((va_up_ne _ _ (by omega)).trans ((n_lay_lt (by omega)).trans ((va_up_ne _ _ (by omega)).trans (rfl))))))))) : _ = f k).symm
  · rcases (show k = o + 0 ∨ k = o + 1 ∨ k = o + 2 ∨ k = o + 3 ∨ k = o + 4 ∨ k = o + 5 ∨ k = o + 6 ∨ k = o + 7 ∨ k = o + 8 ∨ k = o + 9 ∨ k = o + 10 ∨ k = o + 11 ∨ k = o + 12 ∨ k = o + 13 by omega) with rfl | rfl | rfl | rfl | rfl | rfl | rfl | rfl | rfl | rfl | rfl | rfl | rfl | rfl
    · exact (n_lay_at (i := 0) rfl).trans ((va_up_self _ _ _).trans (by first | rfl | (simp [x_cell, x_ar, x_bz, x_vr, x_fl]; done))).symm
    · exact (n_lay_at (i := 1) rfl).trans (((va_up_ne _ _ (by omega)).trans ((n_lay_lt (by omega)).trans ((va_up_ne _ _ (by omega)).trans ((va_up_ne _ _ (by omega)).trans ((n_lay_lt (by omega)).trans ((va_up_ne _ _ (by omega)).trans ((va_up_ne _ _ (by omega)).trans (n_lay_is (i := 0) (by omega) rfl)))))))).trans (by first | rfl | (simp [x_cell, x_ar, x_bz, x_vr, x_fl]; done))).symm
    · exact (n_lay_at (i := 2) rfl).trans (((va_up_ne _ _ (by omega)).trans ((n_lay_lt (by omega)).trans ((va_up_ne _ _ (by omega)).trans ((va_up_ne _ _ (by omega)).trans ((n_lay_lt (by omega)).trans ((va_up_ne _ _ (by omega)).trans ((va_up_ne _ _ (by omega)).trans (n_lay_is (i := 1) (by omega) rfl)))))))).trans (by first | rfl | (simp [x_cell, x_ar, x_bz, x_vr, x_fl]; done))).symm
    · exact (n_lay_at (i := 3) rfl).trans (((va_up_ne _ _ (by omega)).trans ((n_lay_lt (by omega)).trans ((va_up_ne _ _ (by omega)).trans ((va_up_ne _ _ (by omega)).trans ((n_lay_lt (by omega)).trans ((va_up_ne _ _ (by omega)).trans ((va_up_ne _ _ (by omega)).trans (n_lay_is (i := 2) (by omega) rfl)))))))).trans (by first | rfl | (simp [x_cell, x_ar, x_bz, x_vr, x_fl]; done))).symm
    · exact (n_lay_at (i := 4) rfl).trans (((va_up_ne _ _ (by omega)).trans ((n_lay_lt (by omega)).trans ((va_up_ne _ _ (by omega)).trans ((va_up_ne _ _ (by omega)).trans ((n_lay_lt (by omega)).trans ((va_up_ne _ _ (by omega)).trans ((va_up_ne _ _ (by omega)).trans (n_lay_is (i := 3) (by omega) rfl)))))))).trans (by first | rfl | (simp [x_cell, x_ar, x_bz, x_vr, x_fl]; done))).symm
    · exact (n_lay_at (i := 5) rfl).trans (((va_up_ne _ _ (by omega)).trans ((n_lay_lt (by omega)).trans ((va_up_ne _ _ (by omega)).trans ((va_up_ne _ _ (by omega)).trans ((n_lay_lt (by omega)).trans ((va_up_ne _ _ (by omega)).trans ((va_up_ne _ _ (by omega)).trans (n_lay_is (i := 4) (by omega) rfl)))))))).trans (by first | rfl | (simp [x_cell, x_ar, x_bz, x_vr, x_fl]; done))).symm
    · exact (n_lay_at (i := 6) rfl).trans (((va_up_ne _ _ (by omega)).trans ((n_lay_lt (by omega)).trans ((va_up_ne _ _ (by omega)).trans ((va_up_ne _ _ (by omega)).trans ((n_lay_lt (by omega)).trans ((va_up_ne _ _ (by omega)).trans ((va_up_ne _ _ (by omega)).trans (n_lay_is (i := 5) (by omega) rfl)))))))).trans (by first | rfl | (simp [x_cell, x_ar, x_bz, x_vr, x_fl]; done))).symm
    · exact (n_lay_at (i := 7) rfl).trans (((va_up_ne _ _ (by omega)).trans ((n_lay_lt (by omega)).trans ((va_up_ne _ _ (by omega)).trans ((va_up_ne _ _ (by omega)).trans ((n_lay_lt (by omega)).trans ((va_up_ne _ _ (by omega)).trans ((va_up_ne _ _ (by omega)).trans (n_lay_is (i := 6) (by omega) rfl)))))))).trans (by first | rfl | (simp [x_cell, x_ar, x_bz, x_vr, x_fl]; done))).symm
    · exact (n_lay_at (i := 8) rfl).trans (((va_up_ne _ _ (by omega)).trans ((n_lay_lt (by omega)).trans ((va_up_ne _ _ (by omega)).trans ((va_up_ne _ _ (by omega)).trans ((n_lay_lt (by omega)).trans ((va_up_ne _ _ (by omega)).trans ((va_up_ne _ _ (by omega)).trans (n_lay_is (i := 7) (by omega) rfl)))))))).trans (by first | rfl | (simp [x_cell, x_ar, x_bz, x_vr, x_fl]; done))).symm
    · exact (n_lay_at (i := 9) rfl).trans (((va_up_ne _ _ (by omega)).trans ((n_lay_lt (by omega)).trans ((va_up_ne _ _ (by omega)).trans ((va_up_ne _ _ (by omega)).trans (n_lay_is (i := 0) (by omega) rfl))))).trans (by first | rfl | (simp [x_cell, x_ar, x_bz, x_vr, x_fl]; done))).symm
    · exact (n_lay_at (i := 10) rfl).trans (((va_up_ne _ _ (by omega)).trans ((n_lay_lt (by omega)).trans ((va_up_ne _ _ (by omega)).trans ((va_up_ne _ _ (by omega)).trans (n_lay_is (i := 1) (by omega) rfl))))).trans (by first | rfl | (simp [x_cell, x_ar, x_bz, x_vr, x_fl]; done))).symm
    · exact (n_lay_at (i := 11) rfl).trans (((va_up_ne _ _ (by omega)).trans ((n_lay_lt (by omega)).trans ((va_up_ne _ _ (by omega)).trans ((va_up_ne _ _ (by omega)).trans (n_lay_is (i := 2) (by omega) rfl))))).trans (by first | rfl | (simp [x_cell, x_ar, x_bz, x_vr, x_fl]; done))).symm
    · exact (n_lay_at (i := 12) rfl).trans (((va_up_ne _ _ (by omega)).trans ((n_lay_lt (by omega)).trans ((va_up_ne _ _ (by omega)).trans ((va_up_ne _ _ (by omega)).trans (n_lay_is (i := 3) (by omega) rfl))))).trans (by first | rfl | (simp [x_cell, x_ar, x_bz, x_vr, x_fl]; done))).symm
    · exact (n_lay_at (i := 13) rfl).trans (((va_up_ne _ _ (by omega)).trans (n_lay_is (i := 0) (by omega) rfl)).trans (by first | rfl | (simp [x_cell, x_ar, x_bz, x_vr, x_fl]; done))).symm

