theorem x_ix {x : Int32} {n : Nat} (h : 0 ≤ x ∧ x < nI n) (hn : n < 2147483648) : x = nI x.toNatClampNeg ∧ x.toNatClampNeg < n := by
  obtain ⟨j, hj, e⟩ := nI_of (x := x) (Int32.not_lt.mpr h.1)
  have h2 := h.2
  rw [e] at h2
  have h3 := (nI_ltI hj hn).mp h2
  have h4 : x.toNatClampNeg = j := by rw [e]; exact nI_clamp hj
  rw [h4]
  exact ⟨e, h3⟩
theorem x_bi_01 (c : Prop) [Decidable c] : x_bi c = 0 ∨ x_bi c = 1 := by
  unfold x_bi
  split
  · exact Or.inr rfl
  · exact Or.inl rfl
theorem x_bz_bi (c : Prop) [Decidable c] : x_bz (x_bi c) = x_bi c := by
  unfold x_bi
  split <;> rfl
theorem x_e1_inj {G : xG} {p : Program} {s : State} {m : MethodId} {args : Array Value} {c : Code} {cc : ByteArray} {Ts : List Cond} {own : String} {nL : Nat} (C : Cx G p s m args c cc Ts own nL) {i j : Nat} (hi : i < 4) (hj : j < 4) (h : x_e G 1 i = x_e G 1 j) : i = j := C.2.2.2.1.2 i j hi hj h
/-- why a call may not be made: 0 it may, 1 no such lamp, 2 an argument, 3 the state -/
def f_has (d : xd) (o : Nat) (x : Int32) : Prop := 0 ≤ x ∧ x < d (o + 1) 0
def f_ra (d : xd) (o : Nat) (a b : Int32) : Nat := if x_bi (0 ≤ a ∧ a ≤ 3) = 0 then 2 else if x_bi (1 ≤ b ∧ b ≤ 9) = 0 then 2 else if d (o + 1) 0 < 8 then 0 else 3
def f_rd (d : xd) (o : Nat) (x : Int32) : Nat := if x_bi (0 ≤ x ∧ x < d (o + 1) 0) = 0 then 1 else if d (o + 13) 1 + d (o + 7) x.toNatClampNeg ≤ 99 then 0 else 3
def f_rl (d : xd) (o : Nat) (x v hi : Int32) : Nat := if x_bi (0 ≤ x ∧ x < d (o + 1) 0) = 0 then 1 else if x_bi (1 ≤ v ∧ v ≤ hi) = 0 then 2 else 0
def f_rdel (d : xd) (o : Nat) (a : Int32) : Nat := if x_bi (1 ≤ a ∧ a ≤ 200) = 0 then 2 else if d (o + 1) 0 = 0 then 3 else 0
def f_rbuy (d : xd) (o : Nat) (x u : Int32) : Nat := if f_rl d o x u 60 = 0 then (if d (o + 13) 0 < u then 3 else if 60 - d (o + 6) x.toNatClampNeg < u then 3 else if d (o + 8) x.toNatClampNeg < u then 3 else 0) else f_rl d o x u 60
def f_rdon (d : xd) (o : Nat) (u : Int32) : Nat := if x_bi (1 ≤ u ∧ u ≤ 50) = 0 then 2 else if d (o + 13) 1 + u ≤ 99 then 0 else 3
def f_rgive (d : xd) (o : Nat) (x u : Int32) : Nat := if f_rl d o x u 9 = 0 then (if d (o + 13) 1 < u then 3 else if 9 < d (o + 7) x.toNatClampNeg + u then 3 else 0) else f_rl d o x u 9
def f_rret (d : xd) (o : Nat) (x u : Int32) : Nat := if f_rl d o x u 9 = 0 then (if d (o + 7) x.toNatClampNeg < u then 3 else if 99 < d (o + 13) 1 + u then 3 else 0) else f_rl d o x u 9
def f_rpay (d : xd) (o : Nat) : Nat := if d (o + 1) 0 = 0 then 3 else if d (o + 13) 2 = 0 then 3 else 0
def f_rpor (d : xd) (o : Nat) (x a : Int32) : Nat := if x_bi (0 ≤ x ∧ x < d (o + 1) 0) = 0 then 1 else if x_bi (0 ≤ a ∧ a ≤ 999) = 0 then 2 else 0
def f_ram (d : xd) (o : Nat) (x : Int32) : Nat := if x_bi (0 ≤ x ∧ x < d (o + 1) 0) = 0 then 1 else if d (o + 9) 0 < 6 then 0 else 3
def f_rpro (d : xd) (o : Nat) (x : Int32) : Nat := if x_bi (1 ≤ x ∧ x ≤ 5) = 0 then 2 else if d (o + 1) 0 = 0 then 3 else 0
theorem f_rl_lt (d : xd) (o : Nat) (x v hi : Int32) : f_rl d o x v hi < 4 := by
  unfold f_rl
  split
  · decide
  · split <;> decide
theorem f_rl_has {d : xd} {o : Nat} {x v hi : Int32} (h : f_rl d o x v hi = 0) : 0 ≤ x ∧ x < d (o + 1) 0 := by
  by_cases q : x_bi (0 ≤ x ∧ x < d (o + 1) 0) = 0
  · rw [f_rl, if_pos q] at h
    exact absurd h (by decide)
  · exact x_bi_nz q

set_option maxHeartbeats 4000000 in
set_option maxRecDepth 100000 in
theorem c_X11_within (l : Launch) (G : xG) (d : xd) (x lo hi : Int32) : x_M G l yX11_within wsX11_within 1 0 0 [.int x, .int lo, .int hi] d (some (.int (x_bi (lo ≤ x ∧ x ≤ hi)))) d := by
  refine x_start (cc := cX11_within) (maxL := 3) (ret := (some .boolean)) (own := RX11) (by decide) rfl rfl (Nat.le_of_ble_eq_true rfl) (lst := [(0, .int x), (1, .int lo), (2, .int hi)]) rfl ?_
  intro p e s m args below meth c C hr hlocks
  refine a_iload_n C dX11_within_0 0 rfl ?_
  refine a_iload_n C dX11_within_1 1 rfl ?_
  refine a_icmp_lt C dX11_within_2 (tgt := 14) (by decide) (fun h2 => ?_) (fun h2 => ?_)
  · skip
    refine a_iconst C dX11_within_14 (v := 0) (by decide) ?_
    exact a_zret C hlocks hr rfl dX11_within_15 (x_bi_f (fun h => absurd h.1 (Int32.not_le.mpr h2))).symm rfl
  · skip
    refine a_iload_n C dX11_within_5 0 rfl ?_
    refine a_iload_n C dX11_within_6 2 rfl ?_
    refine a_icmp_gt C dX11_within_7 (tgt := 14) (by decide) (fun h7 => ?_) (fun h7 => ?_)
    · skip
      refine a_iconst C dX11_within_14 (v := 0) (by decide) ?_
      exact a_zret C hlocks hr rfl dX11_within_15 (x_bi_f (fun h => absurd h.2 (Int32.not_le.mpr h7))).symm rfl
    · skip
      refine a_iconst C dX11_within_10 (v := 1) (by decide) ?_
      refine a_goto C dX11_within_11 (tgt := 15) (by decide) ?_
      exact a_zret C hlocks hr rfl dX11_within_15 (x_bi_t ⟨Int32.not_lt.mp h2, Int32.not_lt.mp h7⟩).symm rfl

set_option maxHeartbeats 4000000 in
set_option maxRecDepth 100000 in
theorem c_X9_refusalToAddLamp (l : Launch) (G : xG) (d : xd) (o : Nat) (ho : x_isS o) (a b : Int32) : x_M G l yX9_refusalToAddLamp wsX9_refusalToAddLamp 3 0 0 [.ref (x_b G + o), .int a, .int b] d (some (.ref (x_e G 1 (f_ra d o a b)))) d := by
  have iX5 : ∀ w ∈ u_ws RX5 TX5 8, w ∈ wsX9_refusalToAddLamp := by decide +kernel
  have iX9 : ∀ w ∈ u_ws RX9 TX9 3, w ∈ wsX9_refusalToAddLamp := by decide +kernel
  refine x_start (cc := cX9_refusalToAddLamp) (maxL := 3) (ret := (some (.object "LampCooperative$Refusal"))) (own := RX9) (by decide) rfl rfl (Nat.le_of_ble_eq_true rfl) (lst := [(0, .ref (x_b G + o)), (1, .int a), (2, .int b)]) rfl ?_
  intro p e s m args below meth c C hr hlocks
  refine a_iload_n C dX9_refusalToAddLamp_0 1 rfl ?_
  refine a_iconst C dX9_refusalToAddLamp_1 (v := 0) (by decide) ?_
  refine a_iconst C dX9_refusalToAddLamp_2 (v := 3) (by decide) ?_
  refine a_callSN C (As := [.int a, .int 0, .int 3]) (rest := []) (c_X11_within l G d a 0 3) ⟨va_cnB 3 C.1.2.2.2.2 gX9_refusalToAddLamp_X11_within_n42 rfl rfl rfl (x_nest C) (C.1.2.2.2.2 (.initialized RX11) (by decide +kernel)) (by decide +kernel) ⟨Nat.le_of_ble_eq_true rfl, Nat.le_of_ble_eq_true rfl⟩, C.1.2.2.2.2 (.static yX11_within) (by decide +kernel), trivial⟩ rfl rfl (Nat.le_of_ble_eq_true rfl) dX9_refusalToAddLamp_3 ⟨Nat.le_of_ble_eq_true rfl, Nat.le_of_ble_eq_true rfl⟩ ?_
  refine a_if_eq C dX9_refusalToAddLamp_6 (tgt := 19) (by decide) (fun h6 => ?_) (fun h6 => ?_)
  · skip
    refine a_getsR C (i := 2) (by decide) (by decide +kernel) dX9_refusalToAddLamp_19 ?_
    exact a_aret C hlocks hr dX9_refusalToAddLamp_22 (by rw [f_ra, if_pos h6]) rfl
  · skip
    refine a_iload_n C dX9_refusalToAddLamp_9 2 rfl ?_
    refine a_iconst C dX9_refusalToAddLamp_10 (v := 1) (by decide) ?_
    refine a_bipush C dX9_refusalToAddLamp_11 (v := 9) (by decide) ?_
    refine a_callSN C (As := [.int b, .int 1, .int 9]) (rest := []) (c_X11_within l G d b 1 9) ⟨va_cnB 3 C.1.2.2.2.2 gX9_refusalToAddLamp_X11_within_n42 rfl rfl rfl (x_nest C) (C.1.2.2.2.2 (.initialized RX11) (by decide +kernel)) (by decide +kernel) ⟨Nat.le_of_ble_eq_true rfl, Nat.le_of_ble_eq_true rfl⟩, C.1.2.2.2.2 (.static yX11_within) (by decide +kernel), trivial⟩ rfl rfl (Nat.le_of_ble_eq_true rfl) dX9_refusalToAddLamp_13 ⟨Nat.le_of_ble_eq_true rfl, Nat.le_of_ble_eq_true rfl⟩ ?_
    refine a_if_ne C dX9_refusalToAddLamp_16 (tgt := 23) (by decide) (fun h16 => ?_) (fun h16 => ?_)
    · skip
      refine a_aload_n C dX9_refusalToAddLamp_23 0 rfl ?_
      refine a_getR C (k := o) iX9 (x_sS0 ho) rfl (j := 0) rfl (by decide) (by decide +kernel) dX9_refusalToAddLamp_24 ?_
      refine a_getI C (k := (o + 1)) iX5 (x_sS1 ho) rfl (j := 0) rfl (by decide) (by decide +kernel) dX9_refusalToAddLamp_27 ?_
      refine a_bipush C dX9_refusalToAddLamp_30 (v := 8) (by decide) ?_
      refine a_icmp_lt C dX9_refusalToAddLamp_32 (tgt := 41) (by decide) (fun h32 => ?_) (fun h32 => ?_)
      · skip
        refine a_getsR C (i := 0) (by decide) (by decide +kernel) dX9_refusalToAddLamp_41 ?_
        exact a_aret C hlocks hr dX9_refusalToAddLamp_44 (by rw [f_ra, if_neg h6, if_neg h16, if_pos h32]) rfl
      · skip
        refine a_getsR C (i := 3) (by decide) (by decide +kernel) dX9_refusalToAddLamp_35 ?_
        refine a_goto C dX9_refusalToAddLamp_38 (tgt := 44) (by decide) ?_
        exact a_aret C hlocks hr dX9_refusalToAddLamp_44 (by rw [f_ra, if_neg h6, if_neg h16, if_neg h32]) rfl
    · skip
      refine a_getsR C (i := 2) (by decide) (by decide +kernel) dX9_refusalToAddLamp_19 ?_
      exact a_aret C hlocks hr dX9_refusalToAddLamp_22 (by rw [f_ra, if_neg h6, if_pos h16]) rfl

set_option maxHeartbeats 4000000 in
set_option maxRecDepth 100000 in
theorem c_X9_refusalToDropLamp (l : Launch) (G : xG) (d : xd) (o n : Nat) (ho : x_isS o) (hn : d (o + 1) 0 = nI n) (h8 : n ≤ 8) (x : Int32) : x_M G l yX9_refusalToDropLamp wsX9_refusalToDropLamp 2 0 0 [.ref (x_b G + o), .int x] d (some (.ref (x_e G 1 (f_rd d o x)))) d := by
  have iX2 : ∀ w ∈ u_ws RX2 TX2 10, w ∈ wsX9_refusalToDropLamp := by decide +kernel
  have iX5 : ∀ w ∈ u_ws RX5 TX5 8, w ∈ wsX9_refusalToDropLamp := by decide +kernel
  have iX9 : ∀ w ∈ u_ws RX9 TX9 3, w ∈ wsX9_refusalToDropLamp := by decide +kernel
  refine x_start (cc := cX9_refusalToDropLamp) (maxL := 2) (ret := (some (.object "LampCooperative$Refusal"))) (own := RX9) (by decide) rfl rfl (Nat.le_of_ble_eq_true rfl) (lst := [(0, .ref (x_b G + o)), (1, .int x)]) rfl ?_
  intro p e s m args below meth c C hr hlocks
  refine a_aload_n C dX9_refusalToDropLamp_0 0 rfl ?_
  refine a_getR C (k := o) iX9 (x_sS0 ho) rfl (j := 0) rfl (by decide) (by decide +kernel) dX9_refusalToDropLamp_1 ?_
  refine a_iload_n C dX9_refusalToDropLamp_4 1 rfl ?_
  refine a_callV C (k := (o + 1)) (As := [.int x]) (rest := []) (c_X5_has l G d o ho x) (cwV 1 C.1.2.2.2.2 gX9_refusalToDropLamp_X5_has rfl rfl rfl (by decide +kernel) ⟨Nat.le_of_ble_eq_true rfl, Nat.le_of_ble_eq_true rfl⟩) (x_sS1 ho) (q := (RX5, TX5, 8)) rfl rfl rfl rfl (Nat.le_of_ble_eq_true rfl) dX9_refusalToDropLamp_5 ⟨Nat.le_of_ble_eq_true rfl, Nat.le_of_ble_eq_true rfl⟩ ?_
  refine a_if_ne C dX9_refusalToDropLamp_8 (tgt := 15) (by decide) (fun h8 => ?_) (fun h8 => ?_)
  · skip
    have qh := x_bi_nz h8
    rw [hn] at qh
    obtain ⟨ex, hx⟩ := x_ix qh (by omega)
    refine a_aload_n C dX9_refusalToDropLamp_15 0 rfl ?_
    refine a_getR C (k := o) iX9 (x_sS0 ho) rfl (j := 2) rfl (by decide) (by decide +kernel) dX9_refusalToDropLamp_16 ?_
    refine a_getI C (k := (o + 13)) iX2 (x_sS13 ho) rfl (j := 1) rfl (by decide) (by decide +kernel) dX9_refusalToDropLamp_19 ?_
    refine a_aload_n C dX9_refusalToDropLamp_22 0 rfl ?_
    refine a_getR C (k := o) iX9 (x_sS0 ho) rfl (j := 0) rfl (by decide) (by decide +kernel) dX9_refusalToDropLamp_23 ?_
    refine a_getR C (k := (o + 1)) iX5 (x_sS1 ho) rfl (j := 6) rfl (by decide) (by decide +kernel) dX9_refusalToDropLamp_26 ?_
    refine a_iload_n C dX9_refusalToDropLamp_29 1 rfl ?_
    refine a_ialdN C (k := (o + 7)) (x_sS7 ho) (i := x.toNatClampNeg) ex (by omega) (by first | decide | omega) dX9_refusalToDropLamp_30 ?_
    refine a_iadd C dX9_refusalToDropLamp_31 ?_
    refine a_bipush C dX9_refusalToDropLamp_32 (v := 99) (by decide) ?_
    refine a_icmp_le C dX9_refusalToDropLamp_34 (tgt := 43) (by decide) (fun h34 => ?_) (fun h34 => ?_)
    · skip
      refine a_getsR C (i := 0) (by decide) (by decide +kernel) dX9_refusalToDropLamp_43 ?_
      exact a_aret C hlocks hr dX9_refusalToDropLamp_46 (by rw [f_rd, if_neg h8, if_pos h34]) rfl
    · skip
      refine a_getsR C (i := 3) (by decide) (by decide +kernel) dX9_refusalToDropLamp_37 ?_
      refine a_goto C dX9_refusalToDropLamp_40 (tgt := 46) (by decide) ?_
      exact a_aret C hlocks hr dX9_refusalToDropLamp_46 (by rw [f_rd, if_neg h8, if_neg h34]) rfl
  · skip
    refine a_getsR C (i := 1) (by decide) (by decide +kernel) dX9_refusalToDropLamp_11 ?_
    exact a_aret C hlocks hr dX9_refusalToDropLamp_14 (by rw [f_rd, if_pos h8]) rfl

set_option maxHeartbeats 4000000 in
set_option maxRecDepth 100000 in
theorem c_X9_refusalOnLamp (l : Launch) (G : xG) (d : xd) (o : Nat) (ho : x_isS o) (x v hi : Int32) : x_M G l yX9_refusalOnLamp wsX9_refusalOnLamp 2 0 0 [.ref (x_b G + o), .int x, .int v, .int hi] d (some (.ref (x_e G 1 (f_rl d o x v hi)))) d := by
  have iX9 : ∀ w ∈ u_ws RX9 TX9 3, w ∈ wsX9_refusalOnLamp := by decide +kernel
  refine x_start (cc := cX9_refusalOnLamp) (maxL := 4) (ret := (some (.object "LampCooperative$Refusal"))) (own := RX9) (by decide) rfl rfl (Nat.le_of_ble_eq_true rfl) (lst := [(0, .ref (x_b G + o)), (1, .int x), (2, .int v), (3, .int hi)]) rfl ?_
  intro p e s m args below meth c C hr hlocks
  refine a_aload_n C dX9_refusalOnLamp_0 0 rfl ?_
  refine a_getR C (k := o) iX9 (x_sS0 ho) rfl (j := 0) rfl (by decide) (by decide +kernel) dX9_refusalOnLamp_1 ?_
  refine a_iload_n C dX9_refusalOnLamp_4 1 rfl ?_
  refine a_callV C (k := (o + 1)) (As := [.int x]) (rest := []) (c_X5_has l G d o ho x) (cwV 1 C.1.2.2.2.2 gX9_refusalOnLamp_X5_has rfl rfl rfl (by decide +kernel) ⟨Nat.le_of_ble_eq_true rfl, Nat.le_of_ble_eq_true rfl⟩) (x_sS1 ho) (q := (RX5, TX5, 8)) rfl rfl rfl rfl (Nat.le_of_ble_eq_true rfl) dX9_refusalOnLamp_5 ⟨Nat.le_of_ble_eq_true rfl, Nat.le_of_ble_eq_true rfl⟩ ?_
  refine a_if_ne C dX9_refusalOnLamp_8 (tgt := 15) (by decide) (fun h8 => ?_) (fun h8 => ?_)
  · skip
    refine a_iload_n C dX9_refusalOnLamp_15 2 rfl ?_
    refine a_iconst C dX9_refusalOnLamp_16 (v := 1) (by decide) ?_
    refine a_iload_n C dX9_refusalOnLamp_17 3 rfl ?_
    refine a_callSN C (As := [.int v, .int 1, .int hi]) (rest := []) (c_X11_within l G d v 1 hi) ⟨va_cnB 3 C.1.2.2.2.2 gX9_refusalOnLamp_X11_within_n42 rfl rfl rfl (x_nest C) (C.1.2.2.2.2 (.initialized RX11) (by decide +kernel)) (by decide +kernel) ⟨Nat.le_of_ble_eq_true rfl, Nat.le_of_ble_eq_true rfl⟩, C.1.2.2.2.2 (.static yX11_within) (by decide +kernel), trivial⟩ rfl rfl (Nat.le_of_ble_eq_true rfl) dX9_refusalOnLamp_18 ⟨Nat.le_of_ble_eq_true rfl, Nat.le_of_ble_eq_true rfl⟩ ?_
    refine a_if_eq C dX9_refusalOnLamp_21 (tgt := 30) (by decide) (fun h21 => ?_) (fun h21 => ?_)
    · skip
      refine a_getsR C (i := 2) (by decide) (by decide +kernel) dX9_refusalOnLamp_30 ?_
      exact a_aret C hlocks hr dX9_refusalOnLamp_33 (by rw [f_rl, if_neg h8, if_pos h21]) rfl
    · skip
      refine a_getsR C (i := 0) (by decide) (by decide +kernel) dX9_refusalOnLamp_24 ?_
      refine a_goto C dX9_refusalOnLamp_27 (tgt := 33) (by decide) ?_
      exact a_aret C hlocks hr dX9_refusalOnLamp_33 (by rw [f_rl, if_neg h8, if_neg h21]) rfl
  · skip
    refine a_getsR C (i := 1) (by decide) (by decide +kernel) dX9_refusalOnLamp_11 ?_
    exact a_aret C hlocks hr dX9_refusalOnLamp_14 (by rw [f_rl, if_pos h8]) rfl

set_option maxHeartbeats 4000000 in
set_option maxRecDepth 100000 in
theorem c_X9_refusalToDeliver (l : Launch) (G : xG) (d : xd) (o : Nat) (ho : x_isS o) (x : Int32) : x_M G l yX9_refusalToDeliver wsX9_refusalToDeliver 2 0 0 [.ref (x_b G + o), .int x] d (some (.ref (x_e G 1 (f_rdel d o x)))) d := by
  have iX5 : ∀ w ∈ u_ws RX5 TX5 8, w ∈ wsX9_refusalToDeliver := by decide +kernel
  have iX9 : ∀ w ∈ u_ws RX9 TX9 3, w ∈ wsX9_refusalToDeliver := by decide +kernel
  refine x_start (cc := cX9_refusalToDeliver) (maxL := 2) (ret := (some (.object "LampCooperative$Refusal"))) (own := RX9) (by decide) rfl rfl (Nat.le_of_ble_eq_true rfl) (lst := [(0, .ref (x_b G + o)), (1, .int x)]) rfl ?_
  intro p e s m args below meth c C hr hlocks
  refine a_iload_n C dX9_refusalToDeliver_0 1 rfl ?_
  refine a_iconst C dX9_refusalToDeliver_1 (v := 1) (by decide) ?_
  refine a_sipush C dX9_refusalToDeliver_2 (v := 200) (by decide) ?_
  refine a_callSN C (As := [.int x, .int 1, .int 200]) (rest := []) (c_X11_within l G d x 1 200) ⟨va_cnB 3 C.1.2.2.2.2 gX9_refusalToDeliver_X11_within_n42 rfl rfl rfl (x_nest C) (C.1.2.2.2.2 (.initialized RX11) (by decide +kernel)) (by decide +kernel) ⟨Nat.le_of_ble_eq_true rfl, Nat.le_of_ble_eq_true rfl⟩, C.1.2.2.2.2 (.static yX11_within) (by decide +kernel), trivial⟩ rfl rfl (Nat.le_of_ble_eq_true rfl) dX9_refusalToDeliver_5 ⟨Nat.le_of_ble_eq_true rfl, Nat.le_of_ble_eq_true rfl⟩ ?_
  refine a_if_ne C dX9_refusalToDeliver_8 (tgt := 15) (by decide) (fun h8 => ?_) (fun h8 => ?_)
  · skip
    refine a_aload_n C dX9_refusalToDeliver_15 0 rfl ?_
    refine a_getR C (k := o) iX9 (x_sS0 ho) rfl (j := 0) rfl (by decide) (by decide +kernel) dX9_refusalToDeliver_16 ?_
    refine a_getI C (k := (o + 1)) iX5 (x_sS1 ho) rfl (j := 0) rfl (by decide) (by decide +kernel) dX9_refusalToDeliver_19 ?_
    refine a_if_ne C dX9_refusalToDeliver_22 (tgt := 31) (by decide) (fun h22 => ?_) (fun h22 => ?_)
    · skip
      refine a_getsR C (i := 0) (by decide) (by decide +kernel) dX9_refusalToDeliver_31 ?_
      exact a_aret C hlocks hr dX9_refusalToDeliver_34 (by rw [f_rdel, if_neg h8, if_neg h22]) rfl
    · skip
      refine a_getsR C (i := 3) (by decide) (by decide +kernel) dX9_refusalToDeliver_25 ?_
      refine a_goto C dX9_refusalToDeliver_28 (tgt := 34) (by decide) ?_
      exact a_aret C hlocks hr dX9_refusalToDeliver_34 (by rw [f_rdel, if_neg h8, if_pos h22]) rfl
  · skip
    refine a_getsR C (i := 2) (by decide) (by decide +kernel) dX9_refusalToDeliver_11 ?_
    exact a_aret C hlocks hr dX9_refusalToDeliver_14 (by rw [f_rdel, if_pos h8]) rfl

set_option maxHeartbeats 4000000 in
set_option maxRecDepth 100000 in
theorem c_X9_refusalToBuy (l : Launch) (G : xG) (d : xd) (o n : Nat) (ho : x_isS o) (hn : d (o + 1) 0 = nI n) (h8 : n ≤ 8) (x u : Int32) : x_M G l yX9_refusalToBuy wsX9_refusalToBuy 3 0 0 [.ref (x_b G + o), .int x, .int u] d (some (.ref (x_e G 1 (f_rbuy d o x u)))) d := by
  have iX2 : ∀ w ∈ u_ws RX2 TX2 10, w ∈ wsX9_refusalToBuy := by decide +kernel
  have iX5 : ∀ w ∈ u_ws RX5 TX5 8, w ∈ wsX9_refusalToBuy := by decide +kernel
  have iX9 : ∀ w ∈ u_ws RX9 TX9 3, w ∈ wsX9_refusalToBuy := by decide +kernel
  refine x_start (cc := cX9_refusalToBuy) (maxL := 5) (ret := (some (.object "LampCooperative$Refusal"))) (own := RX9) (by decide) rfl rfl (Nat.le_of_ble_eq_true rfl) (lst := [(0, .ref (x_b G + o)), (1, .int x), (2, .int u)]) rfl ?_
  intro p e s m args below meth c C hr hlocks
  refine a_aload_n C dX9_refusalToBuy_0 0 rfl ?_
  refine a_iload_n C dX9_refusalToBuy_1 1 rfl ?_
  refine a_iload_n C dX9_refusalToBuy_2 2 rfl ?_
  refine a_bipush C dX9_refusalToBuy_3 (v := 60) (by decide) ?_
  refine a_callV C (k := o) (As := [.int x, .int u, .int 60]) (rest := []) (c_X9_refusalOnLamp l G d o ho x u 60) (cwV 3 C.1.2.2.2.2 gX9_refusalToBuy_X9_refusalOnLamp rfl rfl rfl (by decide +kernel) ⟨Nat.le_of_ble_eq_true rfl, Nat.le_of_ble_eq_true rfl⟩) (x_sS0 ho) (q := (RX9, TX9, 3)) rfl rfl rfl rfl (Nat.le_of_ble_eq_true rfl) dX9_refusalToBuy_5 ⟨Nat.le_of_ble_eq_true rfl, Nat.le_of_ble_eq_true rfl⟩ ?_
  refine a_astore_n C dX9_refusalToBuy_8 (by decide) (lst2 := [(3, .ref (x_e G 1 (f_rl d o x u 60))), (0, .ref (x_b G + o)), (1, .int x), (2, .int u)]) rfl ?_
  refine a_aload_n C dX9_refusalToBuy_9 0 rfl ?_
  refine a_getsR C (i := 0) (by decide) (by decide +kernel) dX9_refusalToBuy_10 ?_
  refine a_acmp_eq C dX9_refusalToBuy_13 (tgt := 18) (by decide) (fun h13 => ?_) (fun h13 => ?_)
  · skip
    have q13 := x_e1_inj C (f_rl_lt _ _ _ _ _) (by decide) h13
    have qh := f_rl_has q13
    rw [hn] at qh
    obtain ⟨ex, hx⟩ := x_ix qh (by omega)
    refine a_aload_n C dX9_refusalToBuy_18 1 rfl ?_
    refine a_getR C (k := o) iX9 (x_sS0 ho) rfl (j := 2) rfl (by decide) (by decide +kernel) dX9_refusalToBuy_19 ?_
    refine a_getI C (k := (o + 13)) iX2 (x_sS13 ho) rfl (j := 0) rfl (by decide) (by decide +kernel) dX9_refusalToBuy_22 ?_
    refine a_iload_n C dX9_refusalToBuy_25 3 rfl ?_
    refine a_icmp_lt C dX9_refusalToBuy_26 (tgt := 62) (by decide) (fun h26 => ?_) (fun h26 => ?_)
    · skip
      refine a_iconst C dX9_refusalToBuy_62 (v := 0) (by decide) ?_
      refine a_istore C dX9_refusalToBuy_63 (by decide) (lst2 := [(4, .int 0), (3, .ref (x_e G 1 (f_rl d o x u 60))), (0, .ref (x_b G + o)), (1, .int x), (2, .int u)]) rfl ?_
      refine a_iload C dX9_refusalToBuy_65 0 rfl ?_
      refine a_if_eq C dX9_refusalToBuy_67 (tgt := 76) (by decide) (fun _ => ?_) (fun h => absurd h (by decide))
      refine a_getsR C (i := 3) (by decide) (by decide +kernel) dX9_refusalToBuy_76 ?_
      exact a_aret C hlocks hr dX9_refusalToBuy_79 (by rw [f_rbuy, if_pos q13, if_pos h26]) rfl
    · skip
      refine a_bipush C dX9_refusalToBuy_29 (v := 60) (by decide) ?_
      refine a_aload_n C dX9_refusalToBuy_31 1 rfl ?_
      refine a_getR C (k := o) iX9 (x_sS0 ho) rfl (j := 0) rfl (by decide) (by decide +kernel) dX9_refusalToBuy_32 ?_
      refine a_getR C (k := (o + 1)) iX5 (x_sS1 ho) rfl (j := 5) rfl (by decide) (by decide +kernel) dX9_refusalToBuy_35 ?_
      refine a_iload_n C dX9_refusalToBuy_38 2 rfl ?_
      refine a_ialdN C (k := (o + 6)) (x_sS6 ho) (i := x.toNatClampNeg) ex (by omega) (by first | decide | omega) dX9_refusalToBuy_39 ?_
      refine a_isub C dX9_refusalToBuy_40 ?_
      refine a_iload_n C dX9_refusalToBuy_41 3 rfl ?_
      refine a_icmp_lt C dX9_refusalToBuy_42 (tgt := 62) (by decide) (fun h42 => ?_) (fun h42 => ?_)
      · skip
        refine a_iconst C dX9_refusalToBuy_62 (v := 0) (by decide) ?_
        refine a_istore C dX9_refusalToBuy_63 (by decide) (lst2 := [(4, .int 0), (3, .ref (x_e G 1 (f_rl d o x u 60))), (0, .ref (x_b G + o)), (1, .int x), (2, .int u)]) rfl ?_
        refine a_iload C dX9_refusalToBuy_65 0 rfl ?_
        refine a_if_eq C dX9_refusalToBuy_67 (tgt := 76) (by decide) (fun _ => ?_) (fun h => absurd h (by decide))
        refine a_getsR C (i := 3) (by decide) (by decide +kernel) dX9_refusalToBuy_76 ?_
        exact a_aret C hlocks hr dX9_refusalToBuy_79 (by rw [f_rbuy, if_pos q13, if_neg h26, if_pos h42]) rfl
      · skip
        refine a_aload_n C dX9_refusalToBuy_45 1 rfl ?_
        refine a_getR C (k := o) iX9 (x_sS0 ho) rfl (j := 0) rfl (by decide) (by decide +kernel) dX9_refusalToBuy_46 ?_
        refine a_getR C (k := (o + 1)) iX5 (x_sS1 ho) rfl (j := 7) rfl (by decide) (by decide +kernel) dX9_refusalToBuy_49 ?_
        refine a_iload_n C dX9_refusalToBuy_52 2 rfl ?_
        refine a_ialdN C (k := (o + 8)) (x_sS8 ho) (i := x.toNatClampNeg) ex (by omega) (by first | decide | omega) dX9_refusalToBuy_53 ?_
        refine a_iload_n C dX9_refusalToBuy_54 3 rfl ?_
        refine a_icmp_lt C dX9_refusalToBuy_55 (tgt := 62) (by decide) (fun h55 => ?_) (fun h55 => ?_)
        · skip
          refine a_iconst C dX9_refusalToBuy_62 (v := 0) (by decide) ?_
          refine a_istore C dX9_refusalToBuy_63 (by decide) (lst2 := [(4, .int 0), (3, .ref (x_e G 1 (f_rl d o x u 60))), (0, .ref (x_b G + o)), (1, .int x), (2, .int u)]) rfl ?_
          refine a_iload C dX9_refusalToBuy_65 0 rfl ?_
          refine a_if_eq C dX9_refusalToBuy_67 (tgt := 76) (by decide) (fun _ => ?_) (fun h => absurd h (by decide))
          refine a_getsR C (i := 3) (by decide) (by decide +kernel) dX9_refusalToBuy_76 ?_
          exact a_aret C hlocks hr dX9_refusalToBuy_79 (by rw [f_rbuy, if_pos q13, if_neg h26, if_neg h42, if_pos h55]) rfl
        · skip
          refine a_iconst C dX9_refusalToBuy_58 (v := 1) (by decide) ?_
          refine a_goto C dX9_refusalToBuy_59 (tgt := 63) (by decide) ?_
          refine a_istore C dX9_refusalToBuy_63 (by decide) (lst2 := [(4, .int 1), (3, .ref (x_e G 1 (f_rl d o x u 60))), (0, .ref (x_b G + o)), (1, .int x), (2, .int u)]) rfl ?_
          refine a_iload C dX9_refusalToBuy_65 0 rfl ?_
          refine a_if_eq C dX9_refusalToBuy_67 (tgt := 76) (by decide) (fun h => absurd h (by decide)) (fun _ => ?_)
          refine a_getsR C (i := 0) (by decide) (by decide +kernel) dX9_refusalToBuy_70 ?_
          refine a_goto C dX9_refusalToBuy_73 (tgt := 79) (by decide) ?_
          exact a_aret C hlocks hr dX9_refusalToBuy_79 (by rw [f_rbuy, if_pos q13, if_neg h26, if_neg h42, if_neg h55]) rfl
  · skip
    have q13 : ¬ f_rl d o x u 60 = 0 := fun z => h13 (by rw [z])
    refine a_aload_n C dX9_refusalToBuy_16 0 rfl ?_
    exact a_aret C hlocks hr dX9_refusalToBuy_17 (by rw [f_rbuy, if_neg q13]) rfl

set_option maxHeartbeats 4000000 in
set_option maxRecDepth 100000 in
theorem c_X9_refusalToDonate (l : Launch) (G : xG) (d : xd) (o : Nat) (ho : x_isS o) (x : Int32) : x_M G l yX9_refusalToDonate wsX9_refusalToDonate 2 0 0 [.ref (x_b G + o), .int x] d (some (.ref (x_e G 1 (f_rdon d o x)))) d := by
  have iX2 : ∀ w ∈ u_ws RX2 TX2 10, w ∈ wsX9_refusalToDonate := by decide +kernel
  have iX9 : ∀ w ∈ u_ws RX9 TX9 3, w ∈ wsX9_refusalToDonate := by decide +kernel
  refine x_start (cc := cX9_refusalToDonate) (maxL := 2) (ret := (some (.object "LampCooperative$Refusal"))) (own := RX9) (by decide) rfl rfl (Nat.le_of_ble_eq_true rfl) (lst := [(0, .ref (x_b G + o)), (1, .int x)]) rfl ?_
  intro p e s m args below meth c C hr hlocks
  refine a_iload_n C dX9_refusalToDonate_0 1 rfl ?_
  refine a_iconst C dX9_refusalToDonate_1 (v := 1) (by decide) ?_
  refine a_bipush C dX9_refusalToDonate_2 (v := 50) (by decide) ?_
  refine a_callSN C (As := [.int x, .int 1, .int 50]) (rest := []) (c_X11_within l G d x 1 50) ⟨va_cnB 3 C.1.2.2.2.2 gX9_refusalToDonate_X11_within_n42 rfl rfl rfl (x_nest C) (C.1.2.2.2.2 (.initialized RX11) (by decide +kernel)) (by decide +kernel) ⟨Nat.le_of_ble_eq_true rfl, Nat.le_of_ble_eq_true rfl⟩, C.1.2.2.2.2 (.static yX11_within) (by decide +kernel), trivial⟩ rfl rfl (Nat.le_of_ble_eq_true rfl) dX9_refusalToDonate_4 ⟨Nat.le_of_ble_eq_true rfl, Nat.le_of_ble_eq_true rfl⟩ ?_
  refine a_if_ne C dX9_refusalToDonate_7 (tgt := 14) (by decide) (fun h7 => ?_) (fun h7 => ?_)
  · skip
    refine a_aload_n C dX9_refusalToDonate_14 0 rfl ?_
    refine a_getR C (k := o) iX9 (x_sS0 ho) rfl (j := 2) rfl (by decide) (by decide +kernel) dX9_refusalToDonate_15 ?_
    refine a_getI C (k := (o + 13)) iX2 (x_sS13 ho) rfl (j := 1) rfl (by decide) (by decide +kernel) dX9_refusalToDonate_18 ?_
    refine a_iload_n C dX9_refusalToDonate_21 1 rfl ?_
    refine a_iadd C dX9_refusalToDonate_22 ?_
    refine a_bipush C dX9_refusalToDonate_23 (v := 99) (by decide) ?_
    refine a_icmp_le C dX9_refusalToDonate_25 (tgt := 34) (by decide) (fun h25 => ?_) (fun h25 => ?_)
    · skip
      refine a_getsR C (i := 0) (by decide) (by decide +kernel) dX9_refusalToDonate_34 ?_
      exact a_aret C hlocks hr dX9_refusalToDonate_37 (by rw [f_rdon, if_neg h7, if_pos h25]) rfl
    · skip
      refine a_getsR C (i := 3) (by decide) (by decide +kernel) dX9_refusalToDonate_28 ?_
      refine a_goto C dX9_refusalToDonate_31 (tgt := 37) (by decide) ?_
      exact a_aret C hlocks hr dX9_refusalToDonate_37 (by rw [f_rdon, if_neg h7, if_neg h25]) rfl
  · skip
    refine a_getsR C (i := 2) (by decide) (by decide +kernel) dX9_refusalToDonate_10 ?_
    exact a_aret C hlocks hr dX9_refusalToDonate_13 (by rw [f_rdon, if_pos h7]) rfl

set_option maxHeartbeats 4000000 in
set_option maxRecDepth 100000 in
theorem c_X9_refusalToGive (l : Launch) (G : xG) (d : xd) (o n : Nat) (ho : x_isS o) (hn : d (o + 1) 0 = nI n) (h8 : n ≤ 8) (x u : Int32) : x_M G l yX9_refusalToGive wsX9_refusalToGive 3 0 0 [.ref (x_b G + o), .int x, .int u] d (some (.ref (x_e G 1 (f_rgive d o x u)))) d := by
  have iX2 : ∀ w ∈ u_ws RX2 TX2 10, w ∈ wsX9_refusalToGive := by decide +kernel
  have iX5 : ∀ w ∈ u_ws RX5 TX5 8, w ∈ wsX9_refusalToGive := by decide +kernel
  have iX9 : ∀ w ∈ u_ws RX9 TX9 3, w ∈ wsX9_refusalToGive := by decide +kernel
  refine x_start (cc := cX9_refusalToGive) (maxL := 5) (ret := (some (.object "LampCooperative$Refusal"))) (own := RX9) (by decide) rfl rfl (Nat.le_of_ble_eq_true rfl) (lst := [(0, .ref (x_b G + o)), (1, .int x), (2, .int u)]) rfl ?_
  intro p e s m args below meth c C hr hlocks
  refine a_aload_n C dX9_refusalToGive_0 0 rfl ?_
  refine a_iload_n C dX9_refusalToGive_1 1 rfl ?_
  refine a_iload_n C dX9_refusalToGive_2 2 rfl ?_
  refine a_bipush C dX9_refusalToGive_3 (v := 9) (by decide) ?_
  refine a_callV C (k := o) (As := [.int x, .int u, .int 9]) (rest := []) (c_X9_refusalOnLamp l G d o ho x u 9) (cwV 3 C.1.2.2.2.2 gX9_refusalToGive_X9_refusalOnLamp rfl rfl rfl (by decide +kernel) ⟨Nat.le_of_ble_eq_true rfl, Nat.le_of_ble_eq_true rfl⟩) (x_sS0 ho) (q := (RX9, TX9, 3)) rfl rfl rfl rfl (Nat.le_of_ble_eq_true rfl) dX9_refusalToGive_5 ⟨Nat.le_of_ble_eq_true rfl, Nat.le_of_ble_eq_true rfl⟩ ?_
  refine a_astore_n C dX9_refusalToGive_8 (by decide) (lst2 := [(3, .ref (x_e G 1 (f_rl d o x u 9))), (0, .ref (x_b G + o)), (1, .int x), (2, .int u)]) rfl ?_
  refine a_aload_n C dX9_refusalToGive_9 0 rfl ?_
  refine a_getsR C (i := 0) (by decide) (by decide +kernel) dX9_refusalToGive_10 ?_
  refine a_acmp_eq C dX9_refusalToGive_13 (tgt := 18) (by decide) (fun h13 => ?_) (fun h13 => ?_)
  · skip
    have q13 := x_e1_inj C (f_rl_lt _ _ _ _ _) (by decide) h13
    have qh := f_rl_has q13
    rw [hn] at qh
    obtain ⟨ex, hx⟩ := x_ix qh (by omega)
    refine a_aload_n C dX9_refusalToGive_18 1 rfl ?_
    refine a_getR C (k := o) iX9 (x_sS0 ho) rfl (j := 2) rfl (by decide) (by decide +kernel) dX9_refusalToGive_19 ?_
    refine a_getI C (k := (o + 13)) iX2 (x_sS13 ho) rfl (j := 1) rfl (by decide) (by decide +kernel) dX9_refusalToGive_22 ?_
    refine a_iload_n C dX9_refusalToGive_25 3 rfl ?_
    refine a_icmp_lt C dX9_refusalToGive_26 (tgt := 49) (by decide) (fun h26 => ?_) (fun h26 => ?_)
    · skip
      refine a_iconst C dX9_refusalToGive_49 (v := 0) (by decide) ?_
      refine a_istore C dX9_refusalToGive_50 (by decide) (lst2 := [(4, .int 0), (3, .ref (x_e G 1 (f_rl d o x u 9))), (0, .ref (x_b G + o)), (1, .int x), (2, .int u)]) rfl ?_
      refine a_iload C dX9_refusalToGive_52 0 rfl ?_
      refine a_if_eq C dX9_refusalToGive_54 (tgt := 63) (by decide) (fun _ => ?_) (fun h => absurd h (by decide))
      refine a_getsR C (i := 3) (by decide) (by decide +kernel) dX9_refusalToGive_63 ?_
      exact a_aret C hlocks hr dX9_refusalToGive_66 (by rw [f_rgive, if_pos q13, if_pos h26]) rfl
    · skip
      refine a_aload_n C dX9_refusalToGive_29 1 rfl ?_
      refine a_getR C (k := o) iX9 (x_sS0 ho) rfl (j := 0) rfl (by decide) (by decide +kernel) dX9_refusalToGive_30 ?_
      refine a_getR C (k := (o + 1)) iX5 (x_sS1 ho) rfl (j := 6) rfl (by decide) (by decide +kernel) dX9_refusalToGive_33 ?_
      refine a_iload_n C dX9_refusalToGive_36 2 rfl ?_
      refine a_ialdN C (k := (o + 7)) (x_sS7 ho) (i := x.toNatClampNeg) ex (by omega) (by first | decide | omega) dX9_refusalToGive_37 ?_
      refine a_iload_n C dX9_refusalToGive_38 3 rfl ?_
      refine a_iadd C dX9_refusalToGive_39 ?_
      refine a_bipush C dX9_refusalToGive_40 (v := 9) (by decide) ?_
      refine a_icmp_gt C dX9_refusalToGive_42 (tgt := 49) (by decide) (fun h42 => ?_) (fun h42 => ?_)
      · skip
        refine a_iconst C dX9_refusalToGive_49 (v := 0) (by decide) ?_
        refine a_istore C dX9_refusalToGive_50 (by decide) (lst2 := [(4, .int 0), (3, .ref (x_e G 1 (f_rl d o x u 9))), (0, .ref (x_b G + o)), (1, .int x), (2, .int u)]) rfl ?_
        refine a_iload C dX9_refusalToGive_52 0 rfl ?_
        refine a_if_eq C dX9_refusalToGive_54 (tgt := 63) (by decide) (fun _ => ?_) (fun h => absurd h (by decide))
        refine a_getsR C (i := 3) (by decide) (by decide +kernel) dX9_refusalToGive_63 ?_
        exact a_aret C hlocks hr dX9_refusalToGive_66 (by rw [f_rgive, if_pos q13, if_neg h26, if_pos h42]) rfl
      · skip
        refine a_iconst C dX9_refusalToGive_45 (v := 1) (by decide) ?_
        refine a_goto C dX9_refusalToGive_46 (tgt := 50) (by decide) ?_
        refine a_istore C dX9_refusalToGive_50 (by decide) (lst2 := [(4, .int 1), (3, .ref (x_e G 1 (f_rl d o x u 9))), (0, .ref (x_b G + o)), (1, .int x), (2, .int u)]) rfl ?_
        refine a_iload C dX9_refusalToGive_52 0 rfl ?_
        refine a_if_eq C dX9_refusalToGive_54 (tgt := 63) (by decide) (fun h => absurd h (by decide)) (fun _ => ?_)
        refine a_getsR C (i := 0) (by decide) (by decide +kernel) dX9_refusalToGive_57 ?_
        refine a_goto C dX9_refusalToGive_60 (tgt := 66) (by decide) ?_
        exact a_aret C hlocks hr dX9_refusalToGive_66 (by rw [f_rgive, if_pos q13, if_neg h26, if_neg h42]) rfl
  · skip
    have q13 : ¬ f_rl d o x u 9 = 0 := fun z => h13 (by rw [z])
    refine a_aload_n C dX9_refusalToGive_16 0 rfl ?_
    exact a_aret C hlocks hr dX9_refusalToGive_17 (by rw [f_rgive, if_neg q13]) rfl

set_option maxHeartbeats 4000000 in
set_option maxRecDepth 100000 in
theorem c_X9_refusalToReturn (l : Launch) (G : xG) (d : xd) (o n : Nat) (ho : x_isS o) (hn : d (o + 1) 0 = nI n) (h8 : n ≤ 8) (x u : Int32) : x_M G l yX9_refusalToReturn wsX9_refusalToReturn 3 0 0 [.ref (x_b G + o), .int x, .int u] d (some (.ref (x_e G 1 (f_rret d o x u)))) d := by
  have iX2 : ∀ w ∈ u_ws RX2 TX2 10, w ∈ wsX9_refusalToReturn := by decide +kernel
  have iX5 : ∀ w ∈ u_ws RX5 TX5 8, w ∈ wsX9_refusalToReturn := by decide +kernel
  have iX9 : ∀ w ∈ u_ws RX9 TX9 3, w ∈ wsX9_refusalToReturn := by decide +kernel
  refine x_start (cc := cX9_refusalToReturn) (maxL := 5) (ret := (some (.object "LampCooperative$Refusal"))) (own := RX9) (by decide) rfl rfl (Nat.le_of_ble_eq_true rfl) (lst := [(0, .ref (x_b G + o)), (1, .int x), (2, .int u)]) rfl ?_
  intro p e s m args below meth c C hr hlocks
  refine a_aload_n C dX9_refusalToReturn_0 0 rfl ?_
  refine a_iload_n C dX9_refusalToReturn_1 1 rfl ?_
  refine a_iload_n C dX9_refusalToReturn_2 2 rfl ?_
  refine a_bipush C dX9_refusalToReturn_3 (v := 9) (by decide) ?_
  refine a_callV C (k := o) (As := [.int x, .int u, .int 9]) (rest := []) (c_X9_refusalOnLamp l G d o ho x u 9) (cwV 3 C.1.2.2.2.2 gX9_refusalToReturn_X9_refusalOnLamp rfl rfl rfl (by decide +kernel) ⟨Nat.le_of_ble_eq_true rfl, Nat.le_of_ble_eq_true rfl⟩) (x_sS0 ho) (q := (RX9, TX9, 3)) rfl rfl rfl rfl (Nat.le_of_ble_eq_true rfl) dX9_refusalToReturn_5 ⟨Nat.le_of_ble_eq_true rfl, Nat.le_of_ble_eq_true rfl⟩ ?_
  refine a_astore_n C dX9_refusalToReturn_8 (by decide) (lst2 := [(3, .ref (x_e G 1 (f_rl d o x u 9))), (0, .ref (x_b G + o)), (1, .int x), (2, .int u)]) rfl ?_
  refine a_aload_n C dX9_refusalToReturn_9 0 rfl ?_
  refine a_getsR C (i := 0) (by decide) (by decide +kernel) dX9_refusalToReturn_10 ?_
  refine a_acmp_eq C dX9_refusalToReturn_13 (tgt := 18) (by decide) (fun h13 => ?_) (fun h13 => ?_)
  · skip
    have q13 := x_e1_inj C (f_rl_lt _ _ _ _ _) (by decide) h13
    have qh := f_rl_has q13
    rw [hn] at qh
    obtain ⟨ex, hx⟩ := x_ix qh (by omega)
    refine a_aload_n C dX9_refusalToReturn_18 1 rfl ?_
    refine a_getR C (k := o) iX9 (x_sS0 ho) rfl (j := 0) rfl (by decide) (by decide +kernel) dX9_refusalToReturn_19 ?_
    refine a_getR C (k := (o + 1)) iX5 (x_sS1 ho) rfl (j := 6) rfl (by decide) (by decide +kernel) dX9_refusalToReturn_22 ?_
    refine a_iload_n C dX9_refusalToReturn_25 2 rfl ?_
    refine a_ialdN C (k := (o + 7)) (x_sS7 ho) (i := x.toNatClampNeg) ex (by omega) (by first | decide | omega) dX9_refusalToReturn_26 ?_
    refine a_iload_n C dX9_refusalToReturn_27 3 rfl ?_
    refine a_icmp_lt C dX9_refusalToReturn_28 (tgt := 49) (by decide) (fun h28 => ?_) (fun h28 => ?_)
    · skip
      refine a_iconst C dX9_refusalToReturn_49 (v := 0) (by decide) ?_
      refine a_istore C dX9_refusalToReturn_50 (by decide) (lst2 := [(4, .int 0), (3, .ref (x_e G 1 (f_rl d o x u 9))), (0, .ref (x_b G + o)), (1, .int x), (2, .int u)]) rfl ?_
      refine a_iload C dX9_refusalToReturn_52 0 rfl ?_
      refine a_if_eq C dX9_refusalToReturn_54 (tgt := 63) (by decide) (fun _ => ?_) (fun h => absurd h (by decide))
      refine a_getsR C (i := 3) (by decide) (by decide +kernel) dX9_refusalToReturn_63 ?_
      exact a_aret C hlocks hr dX9_refusalToReturn_66 (by rw [f_rret, if_pos q13, if_pos h28]) rfl
    · skip
      refine a_aload_n C dX9_refusalToReturn_31 1 rfl ?_
      refine a_getR C (k := o) iX9 (x_sS0 ho) rfl (j := 2) rfl (by decide) (by decide +kernel) dX9_refusalToReturn_32 ?_
      refine a_getI C (k := (o + 13)) iX2 (x_sS13 ho) rfl (j := 1) rfl (by decide) (by decide +kernel) dX9_refusalToReturn_35 ?_
      refine a_iload_n C dX9_refusalToReturn_38 3 rfl ?_
      refine a_iadd C dX9_refusalToReturn_39 ?_
      refine a_bipush C dX9_refusalToReturn_40 (v := 99) (by decide) ?_
      refine a_icmp_gt C dX9_refusalToReturn_42 (tgt := 49) (by decide) (fun h42 => ?_) (fun h42 => ?_)
      · skip
        refine a_iconst C dX9_refusalToReturn_49 (v := 0) (by decide) ?_
        refine a_istore C dX9_refusalToReturn_50 (by decide) (lst2 := [(4, .int 0), (3, .ref (x_e G 1 (f_rl d o x u 9))), (0, .ref (x_b G + o)), (1, .int x), (2, .int u)]) rfl ?_
        refine a_iload C dX9_refusalToReturn_52 0 rfl ?_
        refine a_if_eq C dX9_refusalToReturn_54 (tgt := 63) (by decide) (fun _ => ?_) (fun h => absurd h (by decide))
        refine a_getsR C (i := 3) (by decide) (by decide +kernel) dX9_refusalToReturn_63 ?_
        exact a_aret C hlocks hr dX9_refusalToReturn_66 (by rw [f_rret, if_pos q13, if_neg h28, if_pos h42]) rfl
      · skip
        refine a_iconst C dX9_refusalToReturn_45 (v := 1) (by decide) ?_
        refine a_goto C dX9_refusalToReturn_46 (tgt := 50) (by decide) ?_
        refine a_istore C dX9_refusalToReturn_50 (by decide) (lst2 := [(4, .int 1), (3, .ref (x_e G 1 (f_rl d o x u 9))), (0, .ref (x_b G + o)), (1, .int x), (2, .int u)]) rfl ?_
        refine a_iload C dX9_refusalToReturn_52 0 rfl ?_
        refine a_if_eq C dX9_refusalToReturn_54 (tgt := 63) (by decide) (fun h => absurd h (by decide)) (fun _ => ?_)
        refine a_getsR C (i := 0) (by decide) (by decide +kernel) dX9_refusalToReturn_57 ?_
        refine a_goto C dX9_refusalToReturn_60 (tgt := 66) (by decide) ?_
        exact a_aret C hlocks hr dX9_refusalToReturn_66 (by rw [f_rret, if_pos q13, if_neg h28, if_neg h42]) rfl
  · skip
    have q13 : ¬ f_rl d o x u 9 = 0 := fun z => h13 (by rw [z])
    refine a_aload_n C dX9_refusalToReturn_16 0 rfl ?_
    exact a_aret C hlocks hr dX9_refusalToReturn_17 (by rw [f_rret, if_neg q13]) rfl

set_option maxHeartbeats 4000000 in
set_option maxRecDepth 100000 in
theorem c_X9_refusalToPay (l : Launch) (G : xG) (d : xd) (o : Nat) (ho : x_isS o) : x_M G l yX9_refusalToPay wsX9_refusalToPay 1 0 0 [.ref (x_b G + o)] d (some (.ref (x_e G 1 (f_rpay d o)))) d := by
  have iX2 : ∀ w ∈ u_ws RX2 TX2 10, w ∈ wsX9_refusalToPay := by decide +kernel
  have iX5 : ∀ w ∈ u_ws RX5 TX5 8, w ∈ wsX9_refusalToPay := by decide +kernel
  have iX9 : ∀ w ∈ u_ws RX9 TX9 3, w ∈ wsX9_refusalToPay := by decide +kernel
  refine x_start (cc := cX9_refusalToPay) (maxL := 1) (ret := (some (.object "LampCooperative$Refusal"))) (own := RX9) (by decide) rfl rfl (Nat.le_of_ble_eq_true rfl) (lst := [(0, .ref (x_b G + o))]) rfl ?_
  intro p e s m args below meth c C hr hlocks
  refine a_aload_n C dX9_refusalToPay_0 0 rfl ?_
  refine a_getR C (k := o) iX9 (x_sS0 ho) rfl (j := 0) rfl (by decide) (by decide +kernel) dX9_refusalToPay_1 ?_
  refine a_getI C (k := (o + 1)) iX5 (x_sS1 ho) rfl (j := 0) rfl (by decide) (by decide +kernel) dX9_refusalToPay_4 ?_
  refine a_if_eq C dX9_refusalToPay_7 (tgt := 20) (by decide) (fun h7 => ?_) (fun h7 => ?_)
  · skip
    refine a_getsR C (i := 3) (by decide) (by decide +kernel) dX9_refusalToPay_20 ?_
    refine a_goto C dX9_refusalToPay_23 (tgt := 29) (by decide) ?_
    exact a_aret C hlocks hr dX9_refusalToPay_29 (by rw [f_rpay, if_pos h7]) rfl
  · skip
    refine a_aload_n C dX9_refusalToPay_10 0 rfl ?_
    refine a_getR C (k := o) iX9 (x_sS0 ho) rfl (j := 2) rfl (by decide) (by decide +kernel) dX9_refusalToPay_11 ?_
    refine a_getI C (k := (o + 13)) iX2 (x_sS13 ho) rfl (j := 2) rfl (by decide) (by decide +kernel) dX9_refusalToPay_14 ?_
    refine a_if_ne C dX9_refusalToPay_17 (tgt := 26) (by decide) (fun h17 => ?_) (fun h17 => ?_)
    · skip
      refine a_getsR C (i := 0) (by decide) (by decide +kernel) dX9_refusalToPay_26 ?_
      exact a_aret C hlocks hr dX9_refusalToPay_29 (by rw [f_rpay, if_neg h7, if_neg h17]) rfl
    · skip
      refine a_getsR C (i := 3) (by decide) (by decide +kernel) dX9_refusalToPay_20 ?_
      refine a_goto C dX9_refusalToPay_23 (tgt := 29) (by decide) ?_
      exact a_aret C hlocks hr dX9_refusalToPay_29 (by rw [f_rpay, if_neg h7, if_pos h17]) rfl

set_option maxHeartbeats 4000000 in
set_option maxRecDepth 100000 in
theorem c_X9_refusalToPortion (l : Launch) (G : xG) (d : xd) (o : Nat) (ho : x_isS o) (x a : Int32) : x_M G l yX9_refusalToPortion wsX9_refusalToPortion 2 0 0 [.ref (x_b G + o), .int x, .int a] d (some (.ref (x_e G 1 (f_rpor d o x a)))) d := by
  have iX9 : ∀ w ∈ u_ws RX9 TX9 3, w ∈ wsX9_refusalToPortion := by decide +kernel
  refine x_start (cc := cX9_refusalToPortion) (maxL := 3) (ret := (some (.object "LampCooperative$Refusal"))) (own := RX9) (by decide) rfl rfl (Nat.le_of_ble_eq_true rfl) (lst := [(0, .ref (x_b G + o)), (1, .int x), (2, .int a)]) rfl ?_
  intro p e s m args below meth c C hr hlocks
  refine a_aload_n C dX9_refusalToPortion_0 0 rfl ?_
  refine a_getR C (k := o) iX9 (x_sS0 ho) rfl (j := 0) rfl (by decide) (by decide +kernel) dX9_refusalToPortion_1 ?_
  refine a_iload_n C dX9_refusalToPortion_4 1 rfl ?_
  refine a_callV C (k := (o + 1)) (As := [.int x]) (rest := []) (c_X5_has l G d o ho x) (cwV 1 C.1.2.2.2.2 gX9_refusalToPortion_X5_has rfl rfl rfl (by decide +kernel) ⟨Nat.le_of_ble_eq_true rfl, Nat.le_of_ble_eq_true rfl⟩) (x_sS1 ho) (q := (RX5, TX5, 8)) rfl rfl rfl rfl (Nat.le_of_ble_eq_true rfl) dX9_refusalToPortion_5 ⟨Nat.le_of_ble_eq_true rfl, Nat.le_of_ble_eq_true rfl⟩ ?_
  refine a_if_ne C dX9_refusalToPortion_8 (tgt := 15) (by decide) (fun h8 => ?_) (fun h8 => ?_)
  · skip
    refine a_iload_n C dX9_refusalToPortion_15 2 rfl ?_
    refine a_iconst C dX9_refusalToPortion_16 (v := 0) (by decide) ?_
    refine a_sipush C dX9_refusalToPortion_17 (v := 999) (by decide) ?_
    refine a_callSN C (As := [.int a, .int 0, .int 999]) (rest := []) (c_X11_within l G d a 0 999) ⟨va_cnB 3 C.1.2.2.2.2 gX9_refusalToPortion_X11_within_n42 rfl rfl rfl (x_nest C) (C.1.2.2.2.2 (.initialized RX11) (by decide +kernel)) (by decide +kernel) ⟨Nat.le_of_ble_eq_true rfl, Nat.le_of_ble_eq_true rfl⟩, C.1.2.2.2.2 (.static yX11_within) (by decide +kernel), trivial⟩ rfl rfl (Nat.le_of_ble_eq_true rfl) dX9_refusalToPortion_20 ⟨Nat.le_of_ble_eq_true rfl, Nat.le_of_ble_eq_true rfl⟩ ?_
    refine a_if_eq C dX9_refusalToPortion_23 (tgt := 32) (by decide) (fun h23 => ?_) (fun h23 => ?_)
    · skip
      refine a_getsR C (i := 2) (by decide) (by decide +kernel) dX9_refusalToPortion_32 ?_
      exact a_aret C hlocks hr dX9_refusalToPortion_35 (by rw [f_rpor, if_neg h8, if_pos h23]) rfl
    · skip
      refine a_getsR C (i := 0) (by decide) (by decide +kernel) dX9_refusalToPortion_26 ?_
      refine a_goto C dX9_refusalToPortion_29 (tgt := 35) (by decide) ?_
      exact a_aret C hlocks hr dX9_refusalToPortion_35 (by rw [f_rpor, if_neg h8, if_neg h23]) rfl
  · skip
    refine a_getsR C (i := 1) (by decide) (by decide +kernel) dX9_refusalToPortion_11 ?_
    exact a_aret C hlocks hr dX9_refusalToPortion_14 (by rw [f_rpor, if_pos h8]) rfl

set_option maxHeartbeats 4000000 in
set_option maxRecDepth 100000 in
theorem c_X9_refusalToAddMoth (l : Launch) (G : xG) (d : xd) (o : Nat) (ho : x_isS o) (x : Int32) : x_M G l yX9_refusalToAddMoth wsX9_refusalToAddMoth 2 0 0 [.ref (x_b G + o), .int x] d (some (.ref (x_e G 1 (f_ram d o x)))) d := by
  have iX6 : ∀ w ∈ u_ws RX6 TX6 4, w ∈ wsX9_refusalToAddMoth := by decide +kernel
  have iX9 : ∀ w ∈ u_ws RX9 TX9 3, w ∈ wsX9_refusalToAddMoth := by decide +kernel
  refine x_start (cc := cX9_refusalToAddMoth) (maxL := 2) (ret := (some (.object "LampCooperative$Refusal"))) (own := RX9) (by decide) rfl rfl (Nat.le_of_ble_eq_true rfl) (lst := [(0, .ref (x_b G + o)), (1, .int x)]) rfl ?_
  intro p e s m args below meth c C hr hlocks
  refine a_aload_n C dX9_refusalToAddMoth_0 0 rfl ?_
  refine a_getR C (k := o) iX9 (x_sS0 ho) rfl (j := 0) rfl (by decide) (by decide +kernel) dX9_refusalToAddMoth_1 ?_
  refine a_iload_n C dX9_refusalToAddMoth_4 1 rfl ?_
  refine a_callV C (k := (o + 1)) (As := [.int x]) (rest := []) (c_X5_has l G d o ho x) (cwV 1 C.1.2.2.2.2 gX9_refusalToAddMoth_X5_has rfl rfl rfl (by decide +kernel) ⟨Nat.le_of_ble_eq_true rfl, Nat.le_of_ble_eq_true rfl⟩) (x_sS1 ho) (q := (RX5, TX5, 8)) rfl rfl rfl rfl (Nat.le_of_ble_eq_true rfl) dX9_refusalToAddMoth_5 ⟨Nat.le_of_ble_eq_true rfl, Nat.le_of_ble_eq_true rfl⟩ ?_
  refine a_if_ne C dX9_refusalToAddMoth_8 (tgt := 15) (by decide) (fun h8 => ?_) (fun h8 => ?_)
  · skip
    refine a_aload_n C dX9_refusalToAddMoth_15 0 rfl ?_
    refine a_getR C (k := o) iX9 (x_sS0 ho) rfl (j := 1) rfl (by decide) (by decide +kernel) dX9_refusalToAddMoth_16 ?_
    refine a_getI C (k := (o + 9)) iX6 (x_sS9 ho) rfl (j := 0) rfl (by decide) (by decide +kernel) dX9_refusalToAddMoth_19 ?_
    refine a_bipush C dX9_refusalToAddMoth_22 (v := 6) (by decide) ?_
    refine a_icmp_lt C dX9_refusalToAddMoth_24 (tgt := 33) (by decide) (fun h24 => ?_) (fun h24 => ?_)
    · skip
      refine a_getsR C (i := 0) (by decide) (by decide +kernel) dX9_refusalToAddMoth_33 ?_
      exact a_aret C hlocks hr dX9_refusalToAddMoth_36 (by rw [f_ram, if_neg h8, if_pos h24]) rfl
    · skip
      refine a_getsR C (i := 3) (by decide) (by decide +kernel) dX9_refusalToAddMoth_27 ?_
      refine a_goto C dX9_refusalToAddMoth_30 (tgt := 36) (by decide) ?_
      exact a_aret C hlocks hr dX9_refusalToAddMoth_36 (by rw [f_ram, if_neg h8, if_neg h24]) rfl
  · skip
    refine a_getsR C (i := 1) (by decide) (by decide +kernel) dX9_refusalToAddMoth_11 ?_
    exact a_aret C hlocks hr dX9_refusalToAddMoth_14 (by rw [f_ram, if_pos h8]) rfl

set_option maxHeartbeats 4000000 in
set_option maxRecDepth 100000 in
theorem c_X9_refusalToPropose (l : Launch) (G : xG) (d : xd) (o : Nat) (ho : x_isS o) (x : Int32) : x_M G l yX9_refusalToPropose wsX9_refusalToPropose 2 0 0 [.ref (x_b G + o), .int x] d (some (.ref (x_e G 1 (f_rpro d o x)))) d := by
  have iX5 : ∀ w ∈ u_ws RX5 TX5 8, w ∈ wsX9_refusalToPropose := by decide +kernel
  have iX9 : ∀ w ∈ u_ws RX9 TX9 3, w ∈ wsX9_refusalToPropose := by decide +kernel
  refine x_start (cc := cX9_refusalToPropose) (maxL := 2) (ret := (some (.object "LampCooperative$Refusal"))) (own := RX9) (by decide) rfl rfl (Nat.le_of_ble_eq_true rfl) (lst := [(0, .ref (x_b G + o)), (1, .int x)]) rfl ?_
  intro p e s m args below meth c C hr hlocks
  refine a_iload_n C dX9_refusalToPropose_0 1 rfl ?_
  refine a_iconst C dX9_refusalToPropose_1 (v := 1) (by decide) ?_
  refine a_iconst C dX9_refusalToPropose_2 (v := 5) (by decide) ?_
  refine a_callSN C (As := [.int x, .int 1, .int 5]) (rest := []) (c_X11_within l G d x 1 5) ⟨va_cnB 3 C.1.2.2.2.2 gX9_refusalToPropose_X11_within_n42 rfl rfl rfl (x_nest C) (C.1.2.2.2.2 (.initialized RX11) (by decide +kernel)) (by decide +kernel) ⟨Nat.le_of_ble_eq_true rfl, Nat.le_of_ble_eq_true rfl⟩, C.1.2.2.2.2 (.static yX11_within) (by decide +kernel), trivial⟩ rfl rfl (Nat.le_of_ble_eq_true rfl) dX9_refusalToPropose_3 ⟨Nat.le_of_ble_eq_true rfl, Nat.le_of_ble_eq_true rfl⟩ ?_
  refine a_if_ne C dX9_refusalToPropose_6 (tgt := 13) (by decide) (fun h6 => ?_) (fun h6 => ?_)
  · skip
    refine a_aload_n C dX9_refusalToPropose_13 0 rfl ?_
    refine a_getR C (k := o) iX9 (x_sS0 ho) rfl (j := 0) rfl (by decide) (by decide +kernel) dX9_refusalToPropose_14 ?_
    refine a_getI C (k := (o + 1)) iX5 (x_sS1 ho) rfl (j := 0) rfl (by decide) (by decide +kernel) dX9_refusalToPropose_17 ?_
    refine a_if_ne C dX9_refusalToPropose_20 (tgt := 29) (by decide) (fun h20 => ?_) (fun h20 => ?_)
    · skip
      refine a_getsR C (i := 0) (by decide) (by decide +kernel) dX9_refusalToPropose_29 ?_
      exact a_aret C hlocks hr dX9_refusalToPropose_32 (by rw [f_rpro, if_neg h6, if_neg h20]) rfl
    · skip
      refine a_getsR C (i := 3) (by decide) (by decide +kernel) dX9_refusalToPropose_23 ?_
      refine a_goto C dX9_refusalToPropose_26 (tgt := 32) (by decide) ?_
      exact a_aret C hlocks hr dX9_refusalToPropose_32 (by rw [f_rpro, if_neg h6, if_pos h20]) rfl
  · skip
    refine a_getsR C (i := 2) (by decide) (by decide +kernel) dX9_refusalToPropose_9 ?_
    exact a_aret C hlocks hr dX9_refusalToPropose_12 (by rw [f_rpro, if_pos h6]) rfl


