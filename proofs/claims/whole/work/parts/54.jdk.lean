def x_wN (v i : Nat) : Nat := (x_wB v i).toNatClampNeg
theorem x_wL_lt : ∀ v, v < 13 → x_wL v ≤ 6 ∧ 2 ≤ x_wL v := by decide +kernel
theorem x_wB_ok : ∀ v, v < 13 → ∀ i, i < x_wL v → (x_wB v i = nI (x_wN v i) ∧ x_wN v i < 128 ∧ 97 ≤ x_wN v i ∧ (nI (x_wN v i) &&& 255) = nI (x_wN v i)) := by decide +kernel
theorem x_shr0 (x : Int32) : x >>> (0 &&& 31) = x := by
  rw [show ((0 : Int32) &&& 31) = 0 from rfl]
  simp
theorem x_chr2 {k : Nat} (h : k < 65536) : ((nI k).toUInt32 % 65536).toInt32 = nI k := by
  rw [pk_char]
  congr 1
  have e : (nI k).toBitVec.toNat = k := by
    show (BitVec.ofNat 32 k).toNat = k
    rw [BitVec.toNat_ofNat]
    omega
  rw [e]
  omega
set_option maxHeartbeats 1000000 in
set_option maxRecDepth 100000 in
theorem c_S_coder (l : Launch) (G : xG) (d : xd) (v : Nat) (hv : v < 13) : x_M G l yJ0_coder_7d493 wsJ0_coder_7d493 1 0 0 [.ref (x_e G 2 v)] d (some (.int 0)) d := by
  refine x_start (cc := cJ0_coder_7d493) (maxL := 1) (ret := (some .byte)) (own := RJ0) (by decide) rfl rfl (Nat.le_of_ble_eq_true rfl) (lst := [(0, .ref (x_e G 2 v))]) rfl ?_
  intro p e s m args below meth c C hr hlocks
  refine a_getsCS C (by decide +kernel) dJ0_coder_7d493_0 ?_
  refine a_if_eq C dJ0_coder_7d493_3 (tgt := 13) (by decide) (fun h => absurd h (by decide)) (fun _ => ?_)
  refine a_aload_n C dJ0_coder_7d493_6 0 rfl ?_
  refine a_getSc C (v := v) (by first | assumption | omega) (by decide +kernel) dJ0_coder_7d493_7 ?_
  refine a_goto C dJ0_coder_7d493_10 (tgt := 14) (by decide) ?_
  exact a_zret C hlocks hr rfl dJ0_coder_7d493_14 rfl rfl

set_option maxHeartbeats 1000000 in
set_option maxRecDepth 100000 in
theorem c_S_length (l : Launch) (G : xG) (d : xd) (v : Nat) (hv : v < 13) : x_M G l yJ0_length_8abf5 wsJ0_length_8abf5 2 0 0 [.ref (x_e G 2 v)] d (some (.int (nI (x_wL v)))) d := by
  refine x_start (cc := cJ0_length_8abf5) (maxL := 1) (ret := (some .int)) (own := RJ0) (by decide) rfl rfl (Nat.le_of_ble_eq_true rfl) (lst := [(0, .ref (x_e G 2 v))]) rfl ?_
  intro p e s m args below meth c C hr hlocks
  refine a_aload_n C dJ0_length_8abf5_0 0 rfl ?_
  refine a_getSv C (v := v) (by first | assumption | omega) (by decide +kernel) dJ0_length_8abf5_1 ?_
  refine a_alenS C (v := v) (by first | assumption | omega) dJ0_length_8abf5_4 ?_
  refine a_aload_n C dJ0_length_8abf5_5 0 rfl ?_
  refine a_callR C (b := x_e G 2 v) (As := []) (rest := [.int (nI (x_wL v))]) (c_S_coder l G d v hv) (cwV 0 C.1.2.2.2.2 gJ0_length_8abf5_J0_coder_7d493 rfl rfl rfl (by decide +kernel) ⟨Nat.le_of_ble_eq_true rfl, Nat.le_of_ble_eq_true rfl⟩) (x_recS C (by first | assumption | omega)) rfl rfl (Nat.le_of_ble_eq_true rfl) dJ0_length_8abf5_6 ⟨Nat.le_of_ble_eq_true rfl, Nat.le_of_ble_eq_true rfl⟩ ?_
  refine a_ishr C dJ0_length_8abf5_9 ?_
  refine a_top (y := (nI (x_wL v))) (x_shr0 _) ?_
  exact a_iret C hlocks hr dJ0_length_8abf5_10 rfl rfl

set_option maxHeartbeats 1000000 in
set_option maxRecDepth 100000 in
theorem c_S_isLatin1 (l : Launch) (G : xG) (d : xd) (v : Nat) (hv : v < 13) : x_M G l yJ0_isLatin1_aae02 wsJ0_isLatin1_aae02 1 0 0 [.ref (x_e G 2 v)] d (some (.int 1)) d := by
  refine x_start (cc := cJ0_isLatin1_aae02) (maxL := 1) (ret := (some .boolean)) (own := RJ0) (by decide) rfl rfl (Nat.le_of_ble_eq_true rfl) (lst := [(0, .ref (x_e G 2 v))]) rfl ?_
  intro p e s m args below meth c C hr hlocks
  refine a_getsCS C (by decide +kernel) dJ0_isLatin1_aae02_0 ?_
  refine a_if_eq C dJ0_isLatin1_aae02_3 (tgt := 17) (by decide) (fun h => absurd h (by decide)) (fun _ => ?_)
  refine a_aload_n C dJ0_isLatin1_aae02_6 0 rfl ?_
  refine a_getSc C (v := v) (by first | assumption | omega) (by decide +kernel) dJ0_isLatin1_aae02_7 ?_
  refine a_if_ne C dJ0_isLatin1_aae02_10 (tgt := 17) (by decide) (fun h => absurd h (by decide)) (fun _ => ?_)
  refine a_iconst C dJ0_isLatin1_aae02_13 (v := 1) (by decide) ?_
  refine a_goto C dJ0_isLatin1_aae02_14 (tgt := 18) (by decide) ?_
  exact a_zret C hlocks hr rfl dJ0_isLatin1_aae02_18 rfl rfl

set_option maxHeartbeats 1000000 in
set_option maxRecDepth 100000 in
theorem c_J3_checkIndex_n (l : Launch) (G : xG) (d : xd) (i n : Nat) (hi : i < n) (hn : n < 1000) : x_M G l yJ3_checkIndex_8e157 wsJ3_checkIndex_8e157 1 0 0 [.int (nI i), .int (nI n), .null] d (some (.int (nI i))) d := by
  refine x_start (cc := cJ3_checkIndex_8e157) (maxL := 3) (ret := (some .int)) (own := RJ3) (by decide) rfl rfl (Nat.le_of_ble_eq_true rfl) (lst := [(0, .int (nI i)), (1, .int (nI n)), (2, .null)]) rfl ?_
  intro p e s m args below meth c C hr hlocks
  refine a_iload_n C dJ3_checkIndex_8e157_0 0 rfl ?_
  refine a_if_lt C dJ3_checkIndex_8e157_1 (tgt := 9) (by decide) (fun h => absurd h (nI_pos (by omega))) (fun h1 => ?_)
  refine a_iload_n C dJ3_checkIndex_8e157_4 0 rfl ?_
  refine a_iload_n C dJ3_checkIndex_8e157_5 1 rfl ?_
  refine a_icmp_lt C dJ3_checkIndex_8e157_6 (tgt := 16) (by decide) (fun h6 => ?_) (fun h => False.elim (h ((nI_ltI (by omega) (by omega)).mpr hi)))
  refine a_iload_n C dJ3_checkIndex_8e157_16 0 rfl ?_
  exact a_iret C hlocks hr dJ3_checkIndex_8e157_17 rfl rfl

set_option maxHeartbeats 1000000 in
set_option maxRecDepth 100000 in
theorem c_J3_checkIndex_r (l : Launch) (G : xG) (d : xd) (i n : Nat) (hi : i < n) (hn : n < 1000) (t9 : Nat) : x_M G l yJ3_checkIndex_8e157 wsJ3_checkIndex_8e157 1 0 0 [.int (nI i), .int (nI n), .ref t9] d (some (.int (nI i))) d := by
  refine x_start (cc := cJ3_checkIndex_8e157) (maxL := 3) (ret := (some .int)) (own := RJ3) (by decide) rfl rfl (Nat.le_of_ble_eq_true rfl) (lst := [(0, .int (nI i)), (1, .int (nI n)), (2, .ref t9)]) rfl ?_
  intro p e s m args below meth c C hr hlocks
  refine a_iload_n C dJ3_checkIndex_8e157_0 0 rfl ?_
  refine a_if_lt C dJ3_checkIndex_8e157_1 (tgt := 9) (by decide) (fun h => absurd h (nI_pos (by omega))) (fun h1 => ?_)
  refine a_iload_n C dJ3_checkIndex_8e157_4 0 rfl ?_
  refine a_iload_n C dJ3_checkIndex_8e157_5 1 rfl ?_
  refine a_icmp_lt C dJ3_checkIndex_8e157_6 (tgt := 16) (by decide) (fun h6 => ?_) (fun h => False.elim (h ((nI_ltI (by omega) (by omega)).mpr hi)))
  refine a_iload_n C dJ3_checkIndex_8e157_16 0 rfl ?_
  exact a_iret C hlocks hr dJ3_checkIndex_8e157_17 rfl rfl

theorem c_J3_checkIndex (l : Launch) (G : xG) (d : xd) (i n : Nat) (hi : i < n) (hn : n < 1000) (fv : Value) (hfv : x_rn fv) : x_M G l yJ3_checkIndex_8e157 wsJ3_checkIndex_8e157 1 0 0 [.int (nI i), .int (nI n), fv] d (some (.int (nI i))) d := by
  rcases hfv with rfl | ⟨t, rfl⟩
  · exact c_J3_checkIndex_n l G d i n hi hn
  · exact c_J3_checkIndex_r l G d i n hi hn t
set_option maxHeartbeats 1000000 in
set_option maxRecDepth 100000 in
theorem c_J0_checkIndex (l : Launch) (G : xG) (d : xd) (i n : Nat) (hi : i < n) (hn : n < 1000) : x_M G l yJ0_checkIndex_df160 wsJ0_checkIndex_df160 2 0 0 [.int (nI i), .int (nI n)] d none d := by
  refine x_start (cc := cJ0_checkIndex_df160) (maxL := 2) (ret := none) (own := RJ0) (by decide) rfl rfl (Nat.le_of_ble_eq_true rfl) (lst := [(0, .int (nI i)), (1, .int (nI n))]) rfl ?_
  intro p e s m args below meth c C hr hlocks
  refine a_iload_n C dJ0_checkIndex_df160_0 0 rfl ?_
  refine a_iload_n C dJ0_checkIndex_df160_1 1 rfl ?_
  refine a_getsQ C (by decide +kernel) dJ0_checkIndex_df160_2 (fun fv hfv => ?_)
  refine a_callS C (As := [.int (nI i), .int (nI n), fv]) (rest := []) (c_J3_checkIndex l G d i n hi hn fv hfv) (va_cwS 3 C.1.2.2.2.2 gJ0_checkIndex_df160_J3_checkIndex_8e157 rfl rfl rfl (by decide +kernel) ⟨Nat.le_of_ble_eq_true rfl, Nat.le_of_ble_eq_true rfl⟩) rfl rfl (Nat.le_of_ble_eq_true rfl) dJ0_checkIndex_df160_5 ⟨Nat.le_of_ble_eq_true rfl, Nat.le_of_ble_eq_true rfl⟩ ?_
  refine a_pop C dJ0_checkIndex_df160_8 rfl ?_
  exact a_vret C hlocks hr dJ0_checkIndex_df160_9 rfl

set_option maxHeartbeats 1000000 in
set_option maxRecDepth 100000 in
theorem c_J1_charAt (l : Launch) (G : xG) (d : xd) (v : Nat) (hv : v < 13) (i : Nat) (hi : i < x_wL v) : x_M G l yJ1_charAt_3b067 wsJ1_charAt_3b067 3 0 0 [.ref (x_e G 3 v), .int (nI i)] d (some (.int (nI (x_wN v i)))) d := by
  have hL := x_wL_lt v hv
  have hB := x_wB_ok v hv i hi
  have h1000 : x_wL v < 1000 := by omega
  refine x_start (cc := cJ1_charAt_3b067) (maxL := 2) (ret := (some .char)) (own := RJ1) (by decide) rfl rfl (Nat.le_of_ble_eq_true rfl) (lst := [(0, .ref (x_e G 3 v)), (1, .int (nI i))]) rfl ?_
  intro p e s m args below meth c C hr hlocks
  refine a_iload_n C dJ1_charAt_3b067_0 1 rfl ?_
  refine a_aload_n C dJ1_charAt_3b067_1 0 rfl ?_
  refine a_alenS C (v := v) (by first | assumption | omega) dJ1_charAt_3b067_2 ?_
  refine a_callS C (As := [.int (nI i), .int (nI (x_wL v))]) (rest := []) (c_J0_checkIndex l G d i (x_wL v) hi (by omega)) (va_cwS 2 C.1.2.2.2.2 gJ1_charAt_3b067_J0_checkIndex_df160 rfl rfl rfl (by decide +kernel) ⟨Nat.le_of_ble_eq_true rfl, Nat.le_of_ble_eq_true rfl⟩) rfl rfl (Nat.le_of_ble_eq_true rfl) dJ1_charAt_3b067_3 ⟨Nat.le_of_ble_eq_true rfl, Nat.le_of_ble_eq_true rfl⟩ ?_
  refine a_aload_n C dJ1_charAt_3b067_6 0 rfl ?_
  refine a_iload_n C dJ1_charAt_3b067_7 1 rfl ?_
  refine a_baS C (v := v) (i := i) (by first | assumption | omega) rfl (by omega) (by first | assumption | omega) dJ1_charAt_3b067_8 ?_
  refine a_top (y := (nI (x_wN v i))) hB.1 ?_
  refine a_sipush C dJ1_charAt_3b067_9 (v := 255) (by decide) ?_
  refine a_iand C dJ1_charAt_3b067_12 ?_
  refine a_top (y := (nI (x_wN v i))) hB.2.2.2 ?_
  refine a_i2c C dJ1_charAt_3b067_13 (v := (nI (x_wN v i))) (x_chr2 (by omega)) ?_
  exact a_zret C hlocks hr (pk_charN (by omega)).1 dJ1_charAt_3b067_14 rfl rfl

set_option maxHeartbeats 1000000 in
set_option maxRecDepth 100000 in
theorem c_S_charAt (l : Launch) (G : xG) (d : xd) (v : Nat) (hv : v < 13) (i : Nat) (hi : i < x_wL v) : x_M G l yJ0_charAt_5068e wsJ0_charAt_5068e 4 0 0 [.ref (x_e G 2 v), .int (nI i)] d (some (.int (nI (x_wN v i)))) d := by
  have hL := x_wL_lt v hv
  have hB := x_wB_ok v hv i hi
  have h1000 : x_wL v < 1000 := by omega
  refine x_start (cc := cJ0_charAt_5068e) (maxL := 2) (ret := (some .char)) (own := RJ0) (by decide) rfl rfl (Nat.le_of_ble_eq_true rfl) (lst := [(0, .ref (x_e G 2 v)), (1, .int (nI i))]) rfl ?_
  intro p e s m args below meth c C hr hlocks
  refine a_aload_n C dJ0_charAt_5068e_0 0 rfl ?_
  refine a_callR C (b := x_e G 2 v) (As := []) (rest := []) (c_S_isLatin1 l G d v hv) (cwV 0 C.1.2.2.2.2 gJ0_charAt_5068e_J0_isLatin1_aae02 rfl rfl rfl (by decide +kernel) ⟨Nat.le_of_ble_eq_true rfl, Nat.le_of_ble_eq_true rfl⟩) (x_recS C (by first | assumption | omega)) rfl rfl (Nat.le_of_ble_eq_true rfl) dJ0_charAt_5068e_1 ⟨Nat.le_of_ble_eq_true rfl, Nat.le_of_ble_eq_true rfl⟩ ?_
  refine a_if_eq C dJ0_charAt_5068e_4 (tgt := 16) (by decide) (fun h => absurd h (by decide)) (fun _ => ?_)
  refine a_aload_n C dJ0_charAt_5068e_7 0 rfl ?_
  refine a_getSv C (v := v) (by first | assumption | omega) (by decide +kernel) dJ0_charAt_5068e_8 ?_
  refine a_iload_n C dJ0_charAt_5068e_11 1 rfl ?_
  refine a_callS C (As := [.ref (x_e G 3 v), .int (nI i)]) (rest := []) (c_J1_charAt l G d v hv i hi) (va_cwS 2 C.1.2.2.2.2 gJ0_charAt_5068e_J1_charAt_3b067 rfl rfl rfl (by decide +kernel) ⟨Nat.le_of_ble_eq_true rfl, Nat.le_of_ble_eq_true rfl⟩) rfl rfl (Nat.le_of_ble_eq_true rfl) dJ0_charAt_5068e_12 ⟨Nat.le_of_ble_eq_true rfl, Nat.le_of_ble_eq_true rfl⟩ ?_
  exact a_zret C hlocks hr (pk_charN (by omega)).1 dJ0_charAt_5068e_15 rfl rfl

set_option maxHeartbeats 1000000 in
set_option maxRecDepth 100000 in
theorem c_E_ordinal (l : Launch) (G : xG) (d : xd) (v : Nat) (hv : v < 13) : x_M G l yJx29ce0_ordinal_8abf5 wsJx29ce0_ordinal_8abf5 1 0 0 [.ref (x_e G 0 v)] d (some (.int (x_vo v))) d := by
  refine x_start (cc := cJx29ce0_ordinal_8abf5) (maxL := 1) (ret := (some .int)) (own := RJx29ce0) (by decide) rfl rfl (Nat.le_of_ble_eq_true rfl) (lst := [(0, .ref (x_e G 0 v))]) rfl ?_
  intro p e s m args below meth c C hr hlocks
  refine a_aload_n C dJx29ce0_ordinal_8abf5_0 0 rfl ?_
  refine a_getVo C (v := v) (by first | assumption | omega) (by decide +kernel) dJx29ce0_ordinal_8abf5_1 ?_
  exact a_iret C hlocks hr dJx29ce0_ordinal_8abf5_4 rfl rfl

theorem x_sub_le {a b : Nat} (h : a ≤ b) (hb : b < 2 ^ 30) : nI a - nI b ≤ 0 := by
  have e := pk_sub_toInt (a := a) (b := b) (by omega) hb
  have z : (0 : Int32).toInt = 0 := rfl
  rw [Int32.le_iff_toInt_le, e, z]
  omega
theorem x_neg_toInt {a : Nat} (h : a < 2 ^ 30) : (-(nI a)).toInt = -(a : Int) := by
  have e := pk_sub_toInt (a := 0) (b := a) (by omega) h
  rw [show nI 0 - nI a = -(nI a) from Int32.zero_sub _] at e
  rw [e]
  omega
theorem x_neg_le {a b : Nat} (ha : a < 2 ^ 30) (hb : b < 2 ^ 30) : -(nI a) ≤ -(nI b) ↔ b ≤ a := by
  rw [Int32.le_iff_toInt_le, x_neg_toInt ha, x_neg_toInt hb]
  omega
theorem x_byt {k : Nat} (h : k < 128) : (nI k).toInt8.toInt32 = nI k := by
  have q : ∀ k, k < 128 → (nI k).toInt8.toInt32 = nI k := by decide +kernel
  exact q k h
theorem x_byn {k : Nat} (h : k < 128) : vp_nar .byte (nI k) = nI k := by
  rw [vp_nar_byte]
  exact x_byt h
theorem x_and255 {k : Nat} (h : k < 128) : nI k &&& 255 = nI k := by
  have q : ∀ k, k < 128 → nI k &&& 255 = nI k := by decide +kernel
  exact q k h
set_option maxHeartbeats 1000000 in
set_option maxRecDepth 100000 in
theorem c_B_isLatin1 (l : Launch) (G : xG) (d : xd) (hco : d 173 1 = 0) : x_M G l yJ5_isLatin1_aae02 wsJ5_isLatin1_aae02 1 0 0 [.ref (x_b G + 173)] d (some (.int 1)) d := by
  have iJ4 : ∀ w ∈ u_ws RJ4 TJ4 4, w ∈ wsJ5_isLatin1_aae02 := by decide +kernel
  refine x_start (cc := cJ5_isLatin1_aae02) (maxL := 1) (ret := (some .boolean)) (own := RJ5) (by decide) rfl rfl (Nat.le_of_ble_eq_true rfl) (lst := [(0, .ref (x_b G + 173))]) rfl ?_
  intro p e s m args below meth c C hr hlocks
  refine a_getsCS C (by decide +kernel) dJ5_isLatin1_aae02_0 ?_
  refine a_if_eq C dJ5_isLatin1_aae02_3 (tgt := 17) (by decide) (fun h => absurd h (by decide)) (fun _ => ?_)
  refine a_aload_n C dJ5_isLatin1_aae02_6 0 rfl ?_
  refine a_getI C (k := 173) iJ4 x_k173 rfl (j := 1) rfl (by decide) (by decide +kernel) dJ5_isLatin1_aae02_7 ?_
  refine a_top (y := 0) hco ?_
  refine a_if_ne C dJ5_isLatin1_aae02_10 (tgt := 17) (by decide) (fun h => absurd h (by decide)) (fun _ => ?_)
  refine a_iconst C dJ5_isLatin1_aae02_13 (v := 1) (by decide) ?_
  refine a_goto C dJ5_isLatin1_aae02_14 (tgt := 18) (by decide) ?_
  exact a_zret C hlocks hr rfl dJ5_isLatin1_aae02_18 rfl rfl

set_option maxHeartbeats 1000000 in
set_option maxRecDepth 100000 in
theorem c_B_ensure (l : Launch) (G : xG) (d : xd) (w : Nat) (hw : w ≤ 16) (hco : d 173 1 = 0) : x_M G l yJ5_ensureCapacityInternal_d00df wsJ5_ensureCapacityInternal_d00df 1 0 0 [.ref (x_b G + 173), .int (nI w)] d none d := by
  have iJ4 : ∀ w ∈ u_ws RJ4 TJ4 4, w ∈ wsJ5_ensureCapacityInternal_d00df := by decide +kernel
  refine x_start (cc := cJ5_ensureCapacityInternal_d00df) (maxL := 3) (ret := none) (own := RJ5) (by decide) rfl rfl (Nat.le_of_ble_eq_true rfl) (lst := [(0, .ref (x_b G + 173)), (1, .int (nI w))]) rfl ?_
  intro p e s m args below meth c C hr hlocks
  refine a_aload_n C dJ5_ensureCapacityInternal_d00df_0 0 rfl ?_
  refine a_getR C (k := 173) iJ4 x_k173 rfl (j := 0) rfl (by decide) (by decide +kernel) dJ5_ensureCapacityInternal_d00df_1 ?_
  refine a_alen C (k := 174) x_k174 (v := 16) rfl dJ5_ensureCapacityInternal_d00df_4 ?_
  refine a_aload_n C dJ5_ensureCapacityInternal_d00df_5 0 rfl ?_
  refine a_getI C (k := 173) iJ4 x_k173 rfl (j := 1) rfl (by decide) (by decide +kernel) dJ5_ensureCapacityInternal_d00df_6 ?_
  refine a_top (y := 0) hco ?_
  refine a_ishr C dJ5_ensureCapacityInternal_d00df_9 ?_
  refine a_top (y := 16) (x_shr0 _) ?_
  refine a_istore_n C dJ5_ensureCapacityInternal_d00df_10 (by decide) (lst2 := [(2, .int 16), (0, .ref (x_b G + 173)), (1, .int (nI w))]) rfl ?_
  refine a_iload_n C dJ5_ensureCapacityInternal_d00df_11 2 rfl ?_
  refine a_iload_n C dJ5_ensureCapacityInternal_d00df_12 0 rfl ?_
  refine a_isub C dJ5_ensureCapacityInternal_d00df_13 ?_
  refine a_if_le C dJ5_ensureCapacityInternal_d00df_14 (tgt := 38) (by decide) (fun h14 => ?_) (fun h => False.elim (h (x_sub_le (b := 16) hw (by omega))))
  exact a_vret C hlocks hr dJ5_ensureCapacityInternal_d00df_38 rfl

def f_sl0 (d : xd) (k : Nat) : xd := if nI k ≤ 0 then x_p d 173 3 0 else x_p (x_p d 173 2 1) 173 3 0
set_option maxHeartbeats 1000000 in
set_option maxRecDepth 100000 in
theorem c_B_setLength0 (l : Launch) (G : xG) (d : xd) (k : Nat) (hk : d 173 3 = nI k) (hk9 : k ≤ 15) (hco : d 173 1 = 0) : x_M G l yJ5_setLength_d00df wsJ5_setLength_d00df 2 0 0 [.ref (x_b G + 173), .int 0] d none (f_sl0 d k) := by
  have iJ4 : ∀ w ∈ u_ws RJ4 TJ4 4, w ∈ wsJ5_setLength_d00df := by decide +kernel
  refine x_start (cc := cJ5_setLength_d00df) (maxL := 2) (ret := none) (own := RJ5) (by decide) rfl rfl (Nat.le_of_ble_eq_true rfl) (lst := [(0, .ref (x_b G + 173)), (1, .int 0)]) rfl ?_
  intro p e s m args below meth c C hr hlocks
  refine a_iload_n C dJ5_setLength_d00df_0 1 rfl ?_
  refine a_if_ge C dJ5_setLength_d00df_1 (tgt := 13) (by decide) (fun _ => ?_) (fun h => absurd h (by decide))
  refine a_aload_n C dJ5_setLength_d00df_13 0 rfl ?_
  refine a_iload_n C dJ5_setLength_d00df_14 1 rfl ?_
  refine a_callU C (k := 173) (As := [.int 0]) (rest := []) (c_B_ensure l G d 0 (by omega) hco) (va_cwU 1 C.1.2.2.2.2 gJ5_setLength_d00df_J5_ensureCapacityInternal_d00df_u100J4 rfl rfl rfl rfl (by decide +kernel) ⟨Nat.le_of_ble_eq_true rfl, Nat.le_of_ble_eq_true rfl⟩) x_k173 (q := (RJ4, TJ4, 4)) rfl rfl rfl rfl (Nat.le_of_ble_eq_true rfl) dJ5_setLength_d00df_15 ⟨Nat.le_of_ble_eq_true rfl, Nat.le_of_ble_eq_true rfl⟩ ?_
  refine a_aload_n C dJ5_setLength_d00df_18 0 rfl ?_
  refine a_getI C (k := 173) iJ4 x_k173 rfl (j := 3) rfl (by decide) (by decide +kernel) dJ5_setLength_d00df_19 ?_
  refine a_top (y := (nI k)) hk ?_
  refine a_iload_n C dJ5_setLength_d00df_22 1 rfl ?_
  refine a_icmp_ge C dJ5_setLength_d00df_23 (tgt := 63) (by decide) (fun h23 => ?_) (fun h => False.elim (h (nI_pos' (by omega))))
  refine a_aload_n C dJ5_setLength_d00df_63 0 rfl ?_
  refine a_getI C (k := 173) iJ4 x_k173 rfl (j := 3) rfl (by decide) (by decide +kernel) dJ5_setLength_d00df_64 ?_
  refine a_top (y := (nI k)) hk ?_
  refine a_iload_n C dJ5_setLength_d00df_67 1 rfl ?_
  refine a_icmp_le C dJ5_setLength_d00df_68 (tgt := 76) (by decide) (fun h68 => ?_) (fun h68 => ?_)
  · skip
    refine a_aload_n C dJ5_setLength_d00df_76 0 rfl ?_
    refine a_iload_n C dJ5_setLength_d00df_77 1 rfl ?_
    refine a_putI C (k := 173) iJ4 tyJ4_ok nmJ4 x_k173 rfl (j := 3) rfl (by decide) (by decide +kernel) rfl (ty := .int) (by decide +kernel) rfl rfl dJ5_setLength_d00df_78 ?_
    exact a_vret C hlocks hr dJ5_setLength_d00df_81 (by rw [f_sl0, if_pos h68])
  · skip
    refine a_aload_n C dJ5_setLength_d00df_71 0 rfl ?_
    refine a_iconst C dJ5_setLength_d00df_72 (v := 1) (by decide) ?_
    refine a_putI C (k := 173) iJ4 tyJ4_ok nmJ4 x_k173 rfl (j := 2) rfl (by decide) (by decide +kernel) rfl (ty := .boolean) (by decide +kernel) rfl rfl dJ5_setLength_d00df_73 ?_
    refine a_aload_n C dJ5_setLength_d00df_76 0 rfl ?_
    refine a_iload_n C dJ5_setLength_d00df_77 1 rfl ?_
    refine a_putI C (k := 173) iJ4 tyJ4_ok nmJ4 x_k173 rfl (j := 3) rfl (by decide) (by decide +kernel) rfl (ty := .int) (by decide +kernel) rfl rfl dJ5_setLength_d00df_78 ?_
    exact a_vret C hlocks hr dJ5_setLength_d00df_81 (by rw [f_sl0, if_neg h68])

set_option maxHeartbeats 1000000 in
set_option maxRecDepth 100000 in
theorem c_L_setLength0 (l : Launch) (G : xG) (d : xd) (k : Nat) (hk : d 173 3 = nI k) (hk9 : k ≤ 15) (hco : d 173 1 = 0) : x_M G l yJ4_setLength_d00df wsJ4_setLength_d00df 3 0 0 [.ref (x_b G + 173), .int 0] d none (f_sl0 d k) := by
  refine x_start (cc := cJ4_setLength_d00df) (maxL := 2) (ret := none) (own := RJ4) (by decide) rfl rfl (Nat.le_of_ble_eq_true rfl) (lst := [(0, .ref (x_b G + 173)), (1, .int 0)]) rfl ?_
  intro p e s m args below meth c C hr hlocks
  refine a_aload_n C dJ4_setLength_d00df_0 0 rfl ?_
  refine a_iload_n C dJ4_setLength_d00df_1 1 rfl ?_
  refine a_callSU C (k := 173) (As := [.int 0]) (rest := []) (c_B_setLength0 l G d k hk hk9 hco) (va_cwSU 1 C.1.2.2.2.2 gJ4_setLength_d00df_J5_setLength_d00df_s333 rfl rfl rfl (by decide +kernel) ⟨Nat.le_of_ble_eq_true rfl, Nat.le_of_ble_eq_true rfl⟩) x_k173 (q := (RJ4, TJ4, 4)) rfl rfl rfl (Nat.le_of_ble_eq_true rfl) dJ4_setLength_d00df_2 ⟨Nat.le_of_ble_eq_true rfl, Nat.le_of_ble_eq_true rfl⟩ ?_
  exact a_vret C hlocks hr dJ4_setLength_d00df_5 rfl

def f_ac (d : xd) (k a : Nat) : xd := x_p (x_p d 173 3 (nI (k + 1))) 174 k (nI a)
set_option maxHeartbeats 1000000 in
set_option maxRecDepth 100000 in
theorem c_canEncode (l : Launch) (G : xG) (d : xd) (a : Nat) (ha : a < 128) : x_M G l yJ1_canEncode_fc78d wsJ1_canEncode_fc78d 1 0 0 [.int (nI a)] d (some (.int 1)) d := by
  refine x_start (cc := cJ1_canEncode_fc78d) (maxL := 1) (ret := (some .boolean)) (own := RJ1) (by decide) rfl rfl (Nat.le_of_ble_eq_true rfl) (lst := [(0, .int (nI a))]) rfl ?_
  intro p e s m args below meth c C hr hlocks
  refine a_iload_n C dJ1_canEncode_fc78d_0 0 rfl ?_
  refine a_sipush C dJ1_canEncode_fc78d_1 (v := 255) (by decide) ?_
  refine a_icmp_gt C dJ1_canEncode_fc78d_4 (tgt := 11) (by decide) (fun h => absurd h (Int32.not_lt.mpr ((nI_leI (b := 255) (by omega) (by omega)).mpr (by omega)))) (fun h4 => ?_)
  refine a_iconst C dJ1_canEncode_fc78d_7 (v := 1) (by decide) ?_
  refine a_goto C dJ1_canEncode_fc78d_8 (tgt := 12) (by decide) ?_
  exact a_zret C hlocks hr rfl dJ1_canEncode_fc78d_12 rfl rfl

set_option maxHeartbeats 1000000 in
set_option maxRecDepth 100000 in
theorem c_B_appendC (l : Launch) (G : xG) (d : xd) (k : Nat) (hk : d 173 3 = nI k) (hk9 : k ≤ 15) (a : Nat) (ha : a < 128) (hco : d 173 1 = 0) : x_M G l yJ5_append_3fe6f wsJ5_append_3fe6f 2 0 0 [.ref (x_b G + 173), .int (nI a)] d (some (.ref (x_b G + 173))) (f_ac d k a) := by
  have iJ4 : ∀ w ∈ u_ws RJ4 TJ4 4, w ∈ wsJ5_append_3fe6f := by decide +kernel
  refine x_start (cc := cJ5_append_3fe6f) (maxL := 2) (ret := (some (.object "java/lang/AbstractStringBuilder"))) (own := RJ5) (by decide) rfl rfl (Nat.le_of_ble_eq_true rfl) (lst := [(0, .ref (x_b G + 173)), (1, .int (nI a))]) rfl ?_
  intro p e s m args below meth c C hr hlocks
  refine a_aload_n C dJ5_append_3fe6f_0 0 rfl ?_
  refine a_aload_n C dJ5_append_3fe6f_1 0 rfl ?_
  refine a_getI C (k := 173) iJ4 x_k173 rfl (j := 3) rfl (by decide) (by decide +kernel) dJ5_append_3fe6f_2 ?_
  refine a_top (y := (nI k)) hk ?_
  refine a_iconst C dJ5_append_3fe6f_5 (v := 1) (by decide) ?_
  refine a_iadd C dJ5_append_3fe6f_6 ?_
  refine a_top (y := (nI (k + 1))) (nI_1 k) ?_
  refine a_callU C (k := 173) (As := [.int (nI (k + 1))]) (rest := []) (c_B_ensure l G d (k + 1) (by omega) hco) (va_cwU 1 C.1.2.2.2.2 gJ5_append_3fe6f_J5_ensureCapacityInternal_d00df_u100J4 rfl rfl rfl rfl (by decide +kernel) ⟨Nat.le_of_ble_eq_true rfl, Nat.le_of_ble_eq_true rfl⟩) x_k173 (q := (RJ4, TJ4, 4)) rfl rfl rfl rfl (Nat.le_of_ble_eq_true rfl) dJ5_append_3fe6f_7 ⟨Nat.le_of_ble_eq_true rfl, Nat.le_of_ble_eq_true rfl⟩ ?_
  refine a_aload_n C dJ5_append_3fe6f_10 0 rfl ?_
  refine a_callU C (k := 173) (As := []) (rest := []) (c_B_isLatin1 l G d hco) (va_cwU 0 C.1.2.2.2.2 gJ5_append_3fe6f_J5_isLatin1_aae02_u83J4 rfl rfl rfl rfl (by decide +kernel) ⟨Nat.le_of_ble_eq_true rfl, Nat.le_of_ble_eq_true rfl⟩) x_k173 (q := (RJ4, TJ4, 4)) rfl rfl rfl rfl (Nat.le_of_ble_eq_true rfl) dJ5_append_3fe6f_11 ⟨Nat.le_of_ble_eq_true rfl, Nat.le_of_ble_eq_true rfl⟩ ?_
  refine a_if_eq C dJ5_append_3fe6f_14 (tgt := 45) (by decide) (fun h => absurd h (by decide)) (fun _ => ?_)
  refine a_iload_n C dJ5_append_3fe6f_17 1 rfl ?_
  refine a_callS C (As := [.int (nI a)]) (rest := []) (c_canEncode l G d a ha) (va_cwS 1 C.1.2.2.2.2 gJ5_append_3fe6f_J1_canEncode_fc78d rfl rfl rfl (by decide +kernel) ⟨Nat.le_of_ble_eq_true rfl, Nat.le_of_ble_eq_true rfl⟩) rfl rfl (Nat.le_of_ble_eq_true rfl) dJ5_append_3fe6f_18 ⟨Nat.le_of_ble_eq_true rfl, Nat.le_of_ble_eq_true rfl⟩ ?_
  refine a_if_eq C dJ5_append_3fe6f_21 (tgt := 45) (by decide) (fun h => absurd h (by decide)) (fun _ => ?_)
  refine a_aload_n C dJ5_append_3fe6f_24 0 rfl ?_
  refine a_getR C (k := 173) iJ4 x_k173 rfl (j := 0) rfl (by decide) (by decide +kernel) dJ5_append_3fe6f_25 ?_
  refine a_aload_n C dJ5_append_3fe6f_28 0 rfl ?_
  refine a_dup C dJ5_append_3fe6f_29 rfl ?_
  refine a_getI C (k := 173) iJ4 x_k173 rfl (j := 3) rfl (by decide) (by decide +kernel) dJ5_append_3fe6f_30 ?_
  refine a_top (y := (nI k)) hk ?_
  refine a_dupx1 C dJ5_append_3fe6f_33 rfl rfl ?_
  refine a_iconst C dJ5_append_3fe6f_34 (v := 1) (by decide) ?_
  refine a_iadd C dJ5_append_3fe6f_35 ?_
  refine a_top (y := (nI (k + 1))) (nI_1 k) ?_
  refine a_putI C (k := 173) iJ4 tyJ4_ok nmJ4 x_k173 rfl (j := 3) rfl (by decide) (by decide +kernel) rfl (ty := .int) (by decide +kernel) rfl rfl dJ5_append_3fe6f_36 ?_
  refine a_iload_n C dJ5_append_3fe6f_39 1 rfl ?_
  refine a_i2b C dJ5_append_3fe6f_40 (v := (nI a)) (x_byt ha) ?_
  refine a_bastN C (k := 174) x_k174 (i := k) rfl (by omega) (by first | decide | omega) (v := (nI a)) (x_byn ha) dJ5_append_3fe6f_41 ?_
  refine a_goto C dJ5_append_3fe6f_42 (tgt := 75) (by decide) ?_
  refine a_aload_n C dJ5_append_3fe6f_75 0 rfl ?_
  exact a_aret C hlocks hr dJ5_append_3fe6f_76 rfl rfl

set_option maxHeartbeats 1000000 in
set_option maxRecDepth 100000 in
theorem c_L_appendC (l : Launch) (G : xG) (d : xd) (k : Nat) (hk : d 173 3 = nI k) (hk9 : k ≤ 15) (a : Nat) (ha : a < 128) (hco : d 173 1 = 0) : x_M G l yJ4_append_cf468 wsJ4_append_cf468 3 0 0 [.ref (x_b G + 173), .int (nI a)] d (some (.ref (x_b G + 173))) (f_ac d k a) := by
  refine x_start (cc := cJ4_append_cf468) (maxL := 2) (ret := (some (.object "java/lang/StringBuilder"))) (own := RJ4) (by decide) rfl rfl (Nat.le_of_ble_eq_true rfl) (lst := [(0, .ref (x_b G + 173)), (1, .int (nI a))]) rfl ?_
  intro p e s m args below meth c C hr hlocks
  refine a_aload_n C dJ4_append_cf468_0 0 rfl ?_
  refine a_iload_n C dJ4_append_cf468_1 1 rfl ?_
  refine a_callSU C (k := 173) (As := [.int (nI a)]) (rest := []) (c_B_appendC l G d k hk hk9 a ha hco) (va_cwSU 1 C.1.2.2.2.2 gJ4_append_cf468_J5_append_3fe6f_s50 rfl rfl rfl (by decide +kernel) ⟨Nat.le_of_ble_eq_true rfl, Nat.le_of_ble_eq_true rfl⟩) x_k173 (q := (RJ4, TJ4, 4)) rfl rfl rfl (Nat.le_of_ble_eq_true rfl) dJ4_append_cf468_2 ⟨Nat.le_of_ble_eq_true rfl, Nat.le_of_ble_eq_true rfl⟩ ?_
  refine a_pop C dJ4_append_cf468_5 rfl ?_
  refine a_aload_n C dJ4_append_cf468_6 0 rfl ?_
  exact a_aret C hlocks hr dJ4_append_cf468_7 rfl rfl

set_option maxHeartbeats 1000000 in
set_option maxRecDepth 100000 in
theorem c_size1 (l : Launch) (G : xG) (d : xd) (v : Nat) (hv : v < 10) : x_M G l yJ6_stringSize_0f7a4 wsJ6_stringSize_0f7a4 1 0 0 [.int (nI v)] d (some (.int 1)) d := by
  refine x_start (cc := cJ6_stringSize_0f7a4) (maxL := 4) (ret := (some .int)) (own := RJ6) (by decide) rfl rfl (Nat.le_of_ble_eq_true rfl) (lst := [(0, .int (nI v))]) rfl ?_
  intro p e s m args below meth c C hr hlocks
  refine a_iconst C dJ6_stringSize_0f7a4_0 (v := 1) (by decide) ?_
  refine a_istore_n C dJ6_stringSize_0f7a4_1 (by decide) (lst2 := [(1, .int 1), (0, .int (nI v))]) rfl ?_
  refine a_iload_n C dJ6_stringSize_0f7a4_2 1 rfl ?_
  refine a_if_lt C dJ6_stringSize_0f7a4_3 (tgt := 11) (by decide) (fun h => absurd h (nI_pos (by omega))) (fun h3 => ?_)
  refine a_iconst C dJ6_stringSize_0f7a4_6 (v := 0) (by decide) ?_
  refine a_istore_n C dJ6_stringSize_0f7a4_7 (by decide) (lst2 := [(1, .int 0), (0, .int (nI v))]) rfl ?_
  refine a_iload_n C dJ6_stringSize_0f7a4_8 1 rfl ?_
  refine a_ineg C dJ6_stringSize_0f7a4_9 ?_
  refine a_istore_n C dJ6_stringSize_0f7a4_10 (by decide) (lst2 := [(0, .int (-(nI v))), (1, .int 0)]) rfl ?_
  refine a_bipush C dJ6_stringSize_0f7a4_11 (v := -10) (by decide) ?_
  refine a_istore_n C dJ6_stringSize_0f7a4_13 (by decide) (lst2 := [(2, .int (-10)), (0, .int (-(nI v))), (1, .int 0)]) rfl ?_
  refine a_iconst C dJ6_stringSize_0f7a4_14 (v := 1) (by decide) ?_
  refine a_istore_n C dJ6_stringSize_0f7a4_15 (by decide) (lst2 := [(3, .int 1), (2, .int (-10)), (0, .int (-(nI v))), (1, .int 0)]) rfl ?_
  refine a_iload_n C dJ6_stringSize_0f7a4_16 0 rfl ?_
  refine a_bipush C dJ6_stringSize_0f7a4_17 (v := 10) (by decide) ?_
  refine a_icmp_ge C dJ6_stringSize_0f7a4_19 (tgt := 42) (by decide) (fun h => absurd h (by decide)) (fun _ => ?_)
  refine a_iload_n C dJ6_stringSize_0f7a4_22 2 rfl ?_
  refine a_iload_n C dJ6_stringSize_0f7a4_23 1 rfl ?_
  refine a_icmp_le C dJ6_stringSize_0f7a4_24 (tgt := 31) (by decide) (fun h => False.elim (absurd ((x_neg_le (b := 10) (by omega) (by omega)).mp h) (by omega))) (fun h24 => ?_)
  refine a_iload_n C dJ6_stringSize_0f7a4_27 0 rfl ?_
  refine a_iload_n C dJ6_stringSize_0f7a4_28 3 rfl ?_
  refine a_iadd C dJ6_stringSize_0f7a4_29 ?_
  refine a_top (y := 1) rfl ?_
  exact a_iret C hlocks hr dJ6_stringSize_0f7a4_30 rfl rfl

set_option maxHeartbeats 1000000 in
set_option maxRecDepth 100000 in
theorem c_size2 (l : Launch) (G : xG) (d : xd) (v : Nat) (hv : 10 ≤ v) (hv2 : v < 100) : x_M G l yJ6_stringSize_0f7a4 wsJ6_stringSize_0f7a4 1 0 0 [.int (nI v)] d (some (.int 2)) d := by
  refine x_start (cc := cJ6_stringSize_0f7a4) (maxL := 4) (ret := (some .int)) (own := RJ6) (by decide) rfl rfl (Nat.le_of_ble_eq_true rfl) (lst := [(0, .int (nI v))]) rfl ?_
  intro p e s m args below meth c C hr hlocks
  refine a_iconst C dJ6_stringSize_0f7a4_0 (v := 1) (by decide) ?_
  refine a_istore_n C dJ6_stringSize_0f7a4_1 (by decide) (lst2 := [(1, .int 1), (0, .int (nI v))]) rfl ?_
  refine a_iload_n C dJ6_stringSize_0f7a4_2 1 rfl ?_
  refine a_if_lt C dJ6_stringSize_0f7a4_3 (tgt := 11) (by decide) (fun h => absurd h (nI_pos (by omega))) (fun h3 => ?_)
  refine a_iconst C dJ6_stringSize_0f7a4_6 (v := 0) (by decide) ?_
  refine a_istore_n C dJ6_stringSize_0f7a4_7 (by decide) (lst2 := [(1, .int 0), (0, .int (nI v))]) rfl ?_
  refine a_iload_n C dJ6_stringSize_0f7a4_8 1 rfl ?_
  refine a_ineg C dJ6_stringSize_0f7a4_9 ?_
  refine a_istore_n C dJ6_stringSize_0f7a4_10 (by decide) (lst2 := [(0, .int (-(nI v))), (1, .int 0)]) rfl ?_
  refine a_bipush C dJ6_stringSize_0f7a4_11 (v := -10) (by decide) ?_
  refine a_istore_n C dJ6_stringSize_0f7a4_13 (by decide) (lst2 := [(2, .int (-10)), (0, .int (-(nI v))), (1, .int 0)]) rfl ?_
  refine a_iconst C dJ6_stringSize_0f7a4_14 (v := 1) (by decide) ?_
  refine a_istore_n C dJ6_stringSize_0f7a4_15 (by decide) (lst2 := [(3, .int 1), (2, .int (-10)), (0, .int (-(nI v))), (1, .int 0)]) rfl ?_
  refine a_iload_n C dJ6_stringSize_0f7a4_16 0 rfl ?_
  refine a_bipush C dJ6_stringSize_0f7a4_17 (v := 10) (by decide) ?_
  refine a_icmp_ge C dJ6_stringSize_0f7a4_19 (tgt := 42) (by decide) (fun h => absurd h (by decide)) (fun _ => ?_)
  refine a_iload_n C dJ6_stringSize_0f7a4_22 2 rfl ?_
  refine a_iload_n C dJ6_stringSize_0f7a4_23 1 rfl ?_
  refine a_icmp_le C dJ6_stringSize_0f7a4_24 (tgt := 31) (by decide) (fun h24 => ?_) (fun h => False.elim (h ((x_neg_le (b := 10) (by omega) (by omega)).mpr (by omega))))
  refine a_bipush C dJ6_stringSize_0f7a4_31 (v := 10) (by decide) ?_
  refine a_iload_n C dJ6_stringSize_0f7a4_33 1 rfl ?_
  refine a_imul C dJ6_stringSize_0f7a4_34 ?_
  refine a_top (y := (-(nI 100))) rfl ?_
  refine a_istore_n C dJ6_stringSize_0f7a4_35 (by decide) (lst2 := [(2, .int (-(nI 100))), (3, .int 1), (0, .int (-(nI v))), (1, .int 0)]) rfl ?_
  refine a_iinc C dJ6_stringSize_0f7a4_36 1 rfl (v := 2) rfl (by decide) (lst2 := [(3, .int 2), (2, .int (-(nI 100))), (0, .int (-(nI v))), (1, .int 0)]) rfl ?_
  refine a_goto C dJ6_stringSize_0f7a4_39 (tgt := 16) (by decide) ?_
  refine a_iload_n C dJ6_stringSize_0f7a4_16 0 rfl ?_
  refine a_bipush C dJ6_stringSize_0f7a4_17 (v := 10) (by decide) ?_
  refine a_icmp_ge C dJ6_stringSize_0f7a4_19 (tgt := 42) (by decide) (fun h => absurd h (by decide)) (fun _ => ?_)
  refine a_iload_n C dJ6_stringSize_0f7a4_22 2 rfl ?_
  refine a_iload_n C dJ6_stringSize_0f7a4_23 1 rfl ?_
  refine a_icmp_le C dJ6_stringSize_0f7a4_24 (tgt := 31) (by decide) (fun h => False.elim (absurd ((x_neg_le (b := 100) (by omega) (by omega)).mp h) (by omega))) (fun h24 => ?_)
  refine a_iload_n C dJ6_stringSize_0f7a4_27 0 rfl ?_
  refine a_iload_n C dJ6_stringSize_0f7a4_28 3 rfl ?_
  refine a_iadd C dJ6_stringSize_0f7a4_29 ?_
  refine a_top (y := 2) rfl ?_
  exact a_iret C hlocks hr dJ6_stringSize_0f7a4_30 rfl rfl

set_option maxHeartbeats 1000000 in
set_option maxRecDepth 100000 in
theorem c_getChars1 (l : Launch) (G : xG) (d : xd) (v k : Nat) (hv : v < 10) (hk : k < 16) : x_M G l yJ6_getChars_ba4f3 wsJ6_getChars_ba4f3 1 0 0 [.int (nI v), .int (nI (k + 1)), .ref (x_b G + 174)] d (some (.int (nI k))) (x_p d 174 k (nI (48 + v % 10))) := by
  refine x_start (cc := cJ6_getChars_ba4f3) (maxL := 7) (ret := (some .int)) (own := RJ6) (by decide) rfl rfl (Nat.le_of_ble_eq_true rfl) (lst := [(0, .int (nI v)), (1, .int (nI (k + 1))), (2, .ref (x_b G + 174))]) rfl ?_
  intro p e s m args below meth c C hr hlocks
  refine a_iload_n C dJ6_getChars_ba4f3_0 1 rfl ?_
  refine a_istore C dJ6_getChars_ba4f3_1 (by decide) (lst2 := [(5, .int (nI (k + 1))), (0, .int (nI v)), (1, .int (nI (k + 1))), (2, .ref (x_b G + 174))]) rfl ?_
  refine a_iload_n C dJ6_getChars_ba4f3_3 1 rfl ?_
  refine a_if_ge C dJ6_getChars_ba4f3_4 (tgt := 11) (by decide) (fun h4 => ?_) (fun h => False.elim (h (nI_pos' (by omega))))
  refine a_iconst C dJ6_getChars_ba4f3_11 (v := 0) (by decide) ?_
  refine a_istore C dJ6_getChars_ba4f3_12 (by decide) (lst2 := [(6, .int 0), (5, .int (nI (k + 1))), (0, .int (nI v)), (1, .int (nI (k + 1))), (2, .ref (x_b G + 174))]) rfl ?_
  refine a_iload C dJ6_getChars_ba4f3_14 0 rfl ?_
  refine a_if_ne C dJ6_getChars_ba4f3_16 (tgt := 22) (by decide) (fun h => absurd h (by decide)) (fun _ => ?_)
  refine a_iload_n C dJ6_getChars_ba4f3_19 2 rfl ?_
  refine a_ineg C dJ6_getChars_ba4f3_20 ?_
  refine a_istore_n C dJ6_getChars_ba4f3_21 (by decide) (lst2 := [(0, .int (-(nI v))), (6, .int 0), (5, .int (nI (k + 1))), (1, .int (nI (k + 1))), (2, .ref (x_b G + 174))]) rfl ?_
  refine a_iload_n C dJ6_getChars_ba4f3_22 0 rfl ?_
  refine a_bipush C dJ6_getChars_ba4f3_23 (v := -100) (by decide) ?_
  refine a_icmp_gt C dJ6_getChars_ba4f3_25 (tgt := 72) (by decide) (fun h25 => ?_) (fun h => False.elim (absurd (Int32.not_lt.mp h) (fun z => absurd ((x_neg_le (b := 100) (by omega) (by omega)).mp z) (by omega))))
  refine a_aload_n C dJ6_getChars_ba4f3_72 4 rfl ?_
  refine a_iinc C dJ6_getChars_ba4f3_73 2 rfl (v := (nI k)) (x_dec k) (by decide) (lst2 := [(5, .int (nI k)), (0, .int (-(nI v))), (6, .int 0), (1, .int (nI (k + 1))), (2, .ref (x_b G + 174))]) rfl ?_
  refine a_iload C dJ6_getChars_ba4f3_76 0 rfl ?_
  refine a_getsDO C (by decide +kernel) dJ6_getChars_ba4f3_78 ?_
  refine a_iload_n C dJ6_getChars_ba4f3_81 1 rfl ?_
  refine a_ineg C dJ6_getChars_ba4f3_82 ?_
  refine a_top (y := (nI v)) (Int32.neg_neg) ?_
  refine a_baDO C (i := v) rfl (by omega) dJ6_getChars_ba4f3_83 ?_
  refine a_bastN C (k := 174) x_k174 (i := k) rfl (by omega) (by first | decide | omega) (v := (nI (48 + v % 10))) (x_byn (by omega)) dJ6_getChars_ba4f3_84 ?_
  refine a_iload_n C dJ6_getChars_ba4f3_85 1 rfl ?_
  refine a_bipush C dJ6_getChars_ba4f3_86 (v := -9) (by decide) ?_
  refine a_icmp_ge C dJ6_getChars_ba4f3_88 (tgt := 104) (by decide) (fun h88 => ?_) (fun h => False.elim (h ((x_neg_le (a := 9) (by omega) (by omega)).mpr (by omega))))
  refine a_iload C dJ6_getChars_ba4f3_104 2 rfl ?_
  refine a_if_eq C dJ6_getChars_ba4f3_106 (tgt := 118) (by decide) (fun _ => ?_) (fun h => absurd h (by decide))
  refine a_iload C dJ6_getChars_ba4f3_118 0 rfl ?_
  exact a_iret C hlocks hr dJ6_getChars_ba4f3_120 rfl rfl

set_option maxHeartbeats 1000000 in
set_option maxRecDepth 100000 in
theorem c_getChars2 (l : Launch) (G : xG) (d : xd) (v k : Nat) (hv : 10 ≤ v) (hv2 : v < 100) (hk : k + 1 < 16) : x_M G l yJ6_getChars_ba4f3 wsJ6_getChars_ba4f3 1 0 0 [.int (nI v), .int (nI (k + 2)), .ref (x_b G + 174)] d (some (.int (nI k))) (x_p (x_p d 174 (k + 1) (nI (48 + v % 10))) 174 k (nI (48 + v / 10))) := by
  refine x_start (cc := cJ6_getChars_ba4f3) (maxL := 7) (ret := (some .int)) (own := RJ6) (by decide) rfl rfl (Nat.le_of_ble_eq_true rfl) (lst := [(0, .int (nI v)), (1, .int (nI (k + 2))), (2, .ref (x_b G + 174))]) rfl ?_
  intro p e s m args below meth c C hr hlocks
  refine a_iload_n C dJ6_getChars_ba4f3_0 1 rfl ?_
  refine a_istore C dJ6_getChars_ba4f3_1 (by decide) (lst2 := [(5, .int (nI (k + 2))), (0, .int (nI v)), (1, .int (nI (k + 2))), (2, .ref (x_b G + 174))]) rfl ?_
  refine a_iload_n C dJ6_getChars_ba4f3_3 1 rfl ?_
  refine a_if_ge C dJ6_getChars_ba4f3_4 (tgt := 11) (by decide) (fun h4 => ?_) (fun h => False.elim (h (nI_pos' (by omega))))
  refine a_iconst C dJ6_getChars_ba4f3_11 (v := 0) (by decide) ?_
  refine a_istore C dJ6_getChars_ba4f3_12 (by decide) (lst2 := [(6, .int 0), (5, .int (nI (k + 2))), (0, .int (nI v)), (1, .int (nI (k + 2))), (2, .ref (x_b G + 174))]) rfl ?_
  refine a_iload C dJ6_getChars_ba4f3_14 0 rfl ?_
  refine a_if_ne C dJ6_getChars_ba4f3_16 (tgt := 22) (by decide) (fun h => absurd h (by decide)) (fun _ => ?_)
  refine a_iload_n C dJ6_getChars_ba4f3_19 2 rfl ?_
  refine a_ineg C dJ6_getChars_ba4f3_20 ?_
  refine a_istore_n C dJ6_getChars_ba4f3_21 (by decide) (lst2 := [(0, .int (-(nI v))), (6, .int 0), (5, .int (nI (k + 2))), (1, .int (nI (k + 2))), (2, .ref (x_b G + 174))]) rfl ?_
  refine a_iload_n C dJ6_getChars_ba4f3_22 0 rfl ?_
  refine a_bipush C dJ6_getChars_ba4f3_23 (v := -100) (by decide) ?_
  refine a_icmp_gt C dJ6_getChars_ba4f3_25 (tgt := 72) (by decide) (fun h25 => ?_) (fun h => False.elim (absurd (Int32.not_lt.mp h) (fun z => absurd ((x_neg_le (b := 100) (by omega) (by omega)).mp z) (by omega))))
  refine a_aload_n C dJ6_getChars_ba4f3_72 4 rfl ?_
  refine a_iinc C dJ6_getChars_ba4f3_73 2 rfl (v := (nI (k + 1))) (x_dec (k + 1)) (by decide) (lst2 := [(5, .int (nI (k + 1))), (0, .int (-(nI v))), (6, .int 0), (1, .int (nI (k + 2))), (2, .ref (x_b G + 174))]) rfl ?_
  refine a_iload C dJ6_getChars_ba4f3_76 0 rfl ?_
  refine a_getsDO C (by decide +kernel) dJ6_getChars_ba4f3_78 ?_
  refine a_iload_n C dJ6_getChars_ba4f3_81 1 rfl ?_
  refine a_ineg C dJ6_getChars_ba4f3_82 ?_
  refine a_top (y := (nI v)) (Int32.neg_neg) ?_
  refine a_baDO C (i := v) rfl (by omega) dJ6_getChars_ba4f3_83 ?_
  refine a_bastN C (k := 174) x_k174 (i := k + 1) rfl (by omega) (by first | decide | omega) (v := (nI (48 + v % 10))) (x_byn (by omega)) dJ6_getChars_ba4f3_84 ?_
  refine a_iload_n C dJ6_getChars_ba4f3_85 1 rfl ?_
  refine a_bipush C dJ6_getChars_ba4f3_86 (v := -9) (by decide) ?_
  refine a_icmp_ge C dJ6_getChars_ba4f3_88 (tgt := 104) (by decide) (fun h => False.elim (absurd ((x_neg_le (a := 9) (by omega) (by omega)).mp h) (by omega))) (fun h88 => ?_)
  refine a_aload_n C dJ6_getChars_ba4f3_91 4 rfl ?_
  refine a_iinc C dJ6_getChars_ba4f3_92 0 rfl (v := (nI k)) (x_dec k) (by decide) (lst2 := [(5, .int (nI k)), (0, .int (-(nI v))), (6, .int 0), (1, .int (nI (k + 2))), (2, .ref (x_b G + 174))]) rfl ?_
  refine a_iload C dJ6_getChars_ba4f3_95 0 rfl ?_
  refine a_getsDT C (by decide +kernel) dJ6_getChars_ba4f3_97 ?_
  refine a_iload_n C dJ6_getChars_ba4f3_100 1 rfl ?_
  refine a_ineg C dJ6_getChars_ba4f3_101 ?_
  refine a_top (y := (nI v)) (Int32.neg_neg) ?_
  refine a_baDT C (i := v) rfl (by omega) dJ6_getChars_ba4f3_102 ?_
  refine a_bastN C (k := 174) x_k174 (i := k) rfl (by omega) (by first | decide | omega) (v := (nI (48 + v / 10))) (x_byn (by omega)) dJ6_getChars_ba4f3_103 ?_
  refine a_iload C dJ6_getChars_ba4f3_104 2 rfl ?_
  refine a_if_eq C dJ6_getChars_ba4f3_106 (tgt := 118) (by decide) (fun _ => ?_) (fun h => absurd h (by decide))
  refine a_iload C dJ6_getChars_ba4f3_118 0 rfl ?_
  exact a_iret C hlocks hr dJ6_getChars_ba4f3_120 rfl rfl

def f_ai (d : xd) (k v : Nat) : xd := if v < 10 then x_p (x_p d 174 k (nI (48 + v))) 173 3 (nI (k + 1)) else x_p (x_p (x_p d 174 (k + 1) (nI (48 + v % 10))) 174 k (nI (48 + v / 10))) 173 3 (nI (k + 2))
set_option maxHeartbeats 1000000 in
set_option maxRecDepth 100000 in
theorem c_B_appendI1 (l : Launch) (G : xG) (d : xd) (k : Nat) (hk : d 173 3 = nI k) (hk9 : k ≤ 15) (v : Nat) (hv : v < 10) (hco : d 173 1 = 0) : x_M G l yJ5_append_c97b9 wsJ5_append_c97b9 2 0 0 [.ref (x_b G + 173), .int (nI v)] d (some (.ref (x_b G + 173))) (f_ai d k v) := by
  have iJ4 : ∀ w ∈ u_ws RJ4 TJ4 4, w ∈ wsJ5_append_c97b9 := by decide +kernel
  refine x_start (cc := cJ5_append_c97b9) (maxL := 4) (ret := (some (.object "java/lang/AbstractStringBuilder"))) (own := RJ5) (by decide) rfl rfl (Nat.le_of_ble_eq_true rfl) (lst := [(0, .ref (x_b G + 173)), (1, .int (nI v))]) rfl ?_
  intro p e s m args below meth c C hr hlocks
  refine a_aload_n C dJ5_append_c97b9_0 0 rfl ?_
  refine a_getI C (k := 173) iJ4 x_k173 rfl (j := 3) rfl (by decide) (by decide +kernel) dJ5_append_c97b9_1 ?_
  refine a_top (y := (nI k)) hk ?_
  refine a_istore_n C dJ5_append_c97b9_4 (by decide) (lst2 := [(2, .int (nI k)), (0, .ref (x_b G + 173)), (1, .int (nI v))]) rfl ?_
  refine a_iload_n C dJ5_append_c97b9_5 0 rfl ?_
  refine a_iload_n C dJ5_append_c97b9_6 2 rfl ?_
  refine a_callS C (As := [.int (nI v)]) (rest := [.int (nI k)]) (c_size1 l G d v hv) (va_cwS 1 C.1.2.2.2.2 gJ5_append_c97b9_J6_stringSize_0f7a4 rfl rfl rfl (by decide +kernel) ⟨Nat.le_of_ble_eq_true rfl, Nat.le_of_ble_eq_true rfl⟩) rfl rfl (Nat.le_of_ble_eq_true rfl) dJ5_append_c97b9_7 ⟨Nat.le_of_ble_eq_true rfl, Nat.le_of_ble_eq_true rfl⟩ ?_
  refine a_iadd C dJ5_append_c97b9_10 ?_
  refine a_top (y := (nI (k + 1))) (nI_1 k) ?_
  refine a_istore_n C dJ5_append_c97b9_11 (by decide) (lst2 := [(3, .int (nI (k + 1))), (2, .int (nI k)), (0, .ref (x_b G + 173)), (1, .int (nI v))]) rfl ?_
  refine a_aload_n C dJ5_append_c97b9_12 2 rfl ?_
  refine a_iload_n C dJ5_append_c97b9_13 0 rfl ?_
  refine a_callU C (k := 173) (As := [.int (nI (k + 1))]) (rest := []) (c_B_ensure l G d (k + 1) (by omega) hco) (va_cwU 1 C.1.2.2.2.2 gJ5_append_c97b9_J5_ensureCapacityInternal_d00df_u100J4 rfl rfl rfl rfl (by decide +kernel) ⟨Nat.le_of_ble_eq_true rfl, Nat.le_of_ble_eq_true rfl⟩) x_k173 (q := (RJ4, TJ4, 4)) rfl rfl rfl rfl (Nat.le_of_ble_eq_true rfl) dJ5_append_c97b9_14 ⟨Nat.le_of_ble_eq_true rfl, Nat.le_of_ble_eq_true rfl⟩ ?_
  refine a_aload_n C dJ5_append_c97b9_17 2 rfl ?_
  refine a_callU C (k := 173) (As := []) (rest := []) (c_B_isLatin1 l G d hco) (va_cwU 0 C.1.2.2.2.2 gJ5_append_c97b9_J5_isLatin1_aae02_u83J4 rfl rfl rfl rfl (by decide +kernel) ⟨Nat.le_of_ble_eq_true rfl, Nat.le_of_ble_eq_true rfl⟩) x_k173 (q := (RJ4, TJ4, 4)) rfl rfl rfl rfl (Nat.le_of_ble_eq_true rfl) dJ5_append_c97b9_18 ⟨Nat.le_of_ble_eq_true rfl, Nat.le_of_ble_eq_true rfl⟩ ?_
  refine a_if_eq C dJ5_append_c97b9_21 (tgt := 37) (by decide) (fun h => absurd h (by decide)) (fun _ => ?_)
  refine a_iload_n C dJ5_append_c97b9_24 3 rfl ?_
  refine a_iload_n C dJ5_append_c97b9_25 0 rfl ?_
  refine a_aload_n C dJ5_append_c97b9_26 2 rfl ?_
  refine a_getR C (k := 173) iJ4 x_k173 rfl (j := 0) rfl (by decide) (by decide +kernel) dJ5_append_c97b9_27 ?_
  refine a_callS C (As := [.int (nI v), .int (nI (k + 1)), .ref (x_b G + 174)]) (rest := []) (c_getChars1 l G d v k hv (by omega)) (va_cwS 3 C.1.2.2.2.2 gJ5_append_c97b9_J6_getChars_ba4f3 rfl rfl rfl (by decide +kernel) ⟨Nat.le_of_ble_eq_true rfl, Nat.le_of_ble_eq_true rfl⟩) rfl rfl (Nat.le_of_ble_eq_true rfl) dJ5_append_c97b9_30 ⟨Nat.le_of_ble_eq_true rfl, Nat.le_of_ble_eq_true rfl⟩ ?_
  refine a_pop C dJ5_append_c97b9_33 rfl ?_
  refine a_goto C dJ5_append_c97b9_34 (tgt := 48) (by decide) ?_
  refine a_aload_n C dJ5_append_c97b9_48 2 rfl ?_
  refine a_iload_n C dJ5_append_c97b9_49 0 rfl ?_
  refine a_putI C (k := 173) iJ4 tyJ4_ok nmJ4 x_k173 rfl (j := 3) rfl (by decide) (by decide +kernel) rfl (ty := .int) (by decide +kernel) rfl rfl dJ5_append_c97b9_50 ?_
  refine a_aload_n C dJ5_append_c97b9_53 2 rfl ?_
  exact a_aret C hlocks hr dJ5_append_c97b9_54 rfl (by rw [f_ai, if_pos hv, Nat.mod_eq_of_lt hv])

set_option maxHeartbeats 1000000 in
set_option maxRecDepth 100000 in
theorem c_B_appendI2 (l : Launch) (G : xG) (d : xd) (k : Nat) (hk : d 173 3 = nI k) (hk9 : k ≤ 14) (v : Nat) (hv : ¬ v < 10) (hv2 : v < 100) (hco : d 173 1 = 0) : x_M G l yJ5_append_c97b9 wsJ5_append_c97b9 2 0 0 [.ref (x_b G + 173), .int (nI v)] d (some (.ref (x_b G + 173))) (f_ai d k v) := by
  have iJ4 : ∀ w ∈ u_ws RJ4 TJ4 4, w ∈ wsJ5_append_c97b9 := by decide +kernel
  refine x_start (cc := cJ5_append_c97b9) (maxL := 4) (ret := (some (.object "java/lang/AbstractStringBuilder"))) (own := RJ5) (by decide) rfl rfl (Nat.le_of_ble_eq_true rfl) (lst := [(0, .ref (x_b G + 173)), (1, .int (nI v))]) rfl ?_
  intro p e s m args below meth c C hr hlocks
  refine a_aload_n C dJ5_append_c97b9_0 0 rfl ?_
  refine a_getI C (k := 173) iJ4 x_k173 rfl (j := 3) rfl (by decide) (by decide +kernel) dJ5_append_c97b9_1 ?_
  refine a_top (y := (nI k)) hk ?_
  refine a_istore_n C dJ5_append_c97b9_4 (by decide) (lst2 := [(2, .int (nI k)), (0, .ref (x_b G + 173)), (1, .int (nI v))]) rfl ?_
  refine a_iload_n C dJ5_append_c97b9_5 0 rfl ?_
  refine a_iload_n C dJ5_append_c97b9_6 2 rfl ?_
  refine a_callS C (As := [.int (nI v)]) (rest := [.int (nI k)]) (c_size2 l G d v (by omega) hv2) (va_cwS 1 C.1.2.2.2.2 gJ5_append_c97b9_J6_stringSize_0f7a4 rfl rfl rfl (by decide +kernel) ⟨Nat.le_of_ble_eq_true rfl, Nat.le_of_ble_eq_true rfl⟩) rfl rfl (Nat.le_of_ble_eq_true rfl) dJ5_append_c97b9_7 ⟨Nat.le_of_ble_eq_true rfl, Nat.le_of_ble_eq_true rfl⟩ ?_
  refine a_iadd C dJ5_append_c97b9_10 ?_
  refine a_top (y := (nI (k + 2))) (nI_add k 2) ?_
  refine a_istore_n C dJ5_append_c97b9_11 (by decide) (lst2 := [(3, .int (nI (k + 2))), (2, .int (nI k)), (0, .ref (x_b G + 173)), (1, .int (nI v))]) rfl ?_
  refine a_aload_n C dJ5_append_c97b9_12 2 rfl ?_
  refine a_iload_n C dJ5_append_c97b9_13 0 rfl ?_
  refine a_callU C (k := 173) (As := [.int (nI (k + 2))]) (rest := []) (c_B_ensure l G d (k + 2) (by omega) hco) (va_cwU 1 C.1.2.2.2.2 gJ5_append_c97b9_J5_ensureCapacityInternal_d00df_u100J4 rfl rfl rfl rfl (by decide +kernel) ⟨Nat.le_of_ble_eq_true rfl, Nat.le_of_ble_eq_true rfl⟩) x_k173 (q := (RJ4, TJ4, 4)) rfl rfl rfl rfl (Nat.le_of_ble_eq_true rfl) dJ5_append_c97b9_14 ⟨Nat.le_of_ble_eq_true rfl, Nat.le_of_ble_eq_true rfl⟩ ?_
  refine a_aload_n C dJ5_append_c97b9_17 2 rfl ?_
  refine a_callU C (k := 173) (As := []) (rest := []) (c_B_isLatin1 l G d hco) (va_cwU 0 C.1.2.2.2.2 gJ5_append_c97b9_J5_isLatin1_aae02_u83J4 rfl rfl rfl rfl (by decide +kernel) ⟨Nat.le_of_ble_eq_true rfl, Nat.le_of_ble_eq_true rfl⟩) x_k173 (q := (RJ4, TJ4, 4)) rfl rfl rfl rfl (Nat.le_of_ble_eq_true rfl) dJ5_append_c97b9_18 ⟨Nat.le_of_ble_eq_true rfl, Nat.le_of_ble_eq_true rfl⟩ ?_
  refine a_if_eq C dJ5_append_c97b9_21 (tgt := 37) (by decide) (fun h => absurd h (by decide)) (fun _ => ?_)
  refine a_iload_n C dJ5_append_c97b9_24 3 rfl ?_
  refine a_iload_n C dJ5_append_c97b9_25 0 rfl ?_
  refine a_aload_n C dJ5_append_c97b9_26 2 rfl ?_
  refine a_getR C (k := 173) iJ4 x_k173 rfl (j := 0) rfl (by decide) (by decide +kernel) dJ5_append_c97b9_27 ?_
  refine a_callS C (As := [.int (nI v), .int (nI (k + 2)), .ref (x_b G + 174)]) (rest := []) (c_getChars2 l G d v k (by omega) hv2 (by omega)) (va_cwS 3 C.1.2.2.2.2 gJ5_append_c97b9_J6_getChars_ba4f3 rfl rfl rfl (by decide +kernel) ⟨Nat.le_of_ble_eq_true rfl, Nat.le_of_ble_eq_true rfl⟩) rfl rfl (Nat.le_of_ble_eq_true rfl) dJ5_append_c97b9_30 ⟨Nat.le_of_ble_eq_true rfl, Nat.le_of_ble_eq_true rfl⟩ ?_
  refine a_pop C dJ5_append_c97b9_33 rfl ?_
  refine a_goto C dJ5_append_c97b9_34 (tgt := 48) (by decide) ?_
  refine a_aload_n C dJ5_append_c97b9_48 2 rfl ?_
  refine a_iload_n C dJ5_append_c97b9_49 0 rfl ?_
  refine a_putI C (k := 173) iJ4 tyJ4_ok nmJ4 x_k173 rfl (j := 3) rfl (by decide) (by decide +kernel) rfl (ty := .int) (by decide +kernel) rfl rfl dJ5_append_c97b9_50 ?_
  refine a_aload_n C dJ5_append_c97b9_53 2 rfl ?_
  exact a_aret C hlocks hr dJ5_append_c97b9_54 rfl (by rw [f_ai, if_neg hv])

theorem c_B_appendI (l : Launch) (G : xG) (d : xd) (k : Nat) (hk : d 173 3 = nI k) (hk9 : k ≤ 14) (v : Nat) (hv : v < 100) (hco : d 173 1 = 0) : x_M G l yJ5_append_c97b9 wsJ5_append_c97b9 2 0 0 [.ref (x_b G + 173), .int (nI v)] d (some (.ref (x_b G + 173))) (f_ai d k v) := by
  by_cases h : v < 10
  · exact c_B_appendI1 l G d k hk (by omega) v h hco
  · exact c_B_appendI2 l G d k hk hk9 v h hv hco
set_option maxHeartbeats 1000000 in
set_option maxRecDepth 100000 in
theorem c_L_appendI (l : Launch) (G : xG) (d : xd) (k : Nat) (hk : d 173 3 = nI k) (hk9 : k ≤ 14) (v : Nat) (hv : v < 100) (hco : d 173 1 = 0) : x_M G l yJ4_append_bf812 wsJ4_append_bf812 3 0 0 [.ref (x_b G + 173), .int (nI v)] d (some (.ref (x_b G + 173))) (f_ai d k v) := by
  refine x_start (cc := cJ4_append_bf812) (maxL := 2) (ret := (some (.object "java/lang/StringBuilder"))) (own := RJ4) (by decide) rfl rfl (Nat.le_of_ble_eq_true rfl) (lst := [(0, .ref (x_b G + 173)), (1, .int (nI v))]) rfl ?_
  intro p e s m args below meth c C hr hlocks
  refine a_aload_n C dJ4_append_bf812_0 0 rfl ?_
  refine a_iload_n C dJ4_append_bf812_1 1 rfl ?_
  refine a_callSU C (k := 173) (As := [.int (nI v)]) (rest := []) (c_B_appendI l G d k hk hk9 v hv hco) (va_cwSU 1 C.1.2.2.2.2 gJ4_append_bf812_J5_append_c97b9_s53 rfl rfl rfl (by decide +kernel) ⟨Nat.le_of_ble_eq_true rfl, Nat.le_of_ble_eq_true rfl⟩) x_k173 (q := (RJ4, TJ4, 4)) rfl rfl rfl (Nat.le_of_ble_eq_true rfl) dJ4_append_bf812_2 ⟨Nat.le_of_ble_eq_true rfl, Nat.le_of_ble_eq_true rfl⟩ ?_
  refine a_pop C dJ4_append_bf812_5 rfl ?_
  refine a_aload_n C dJ4_append_bf812_6 0 rfl ?_
  exact a_aret C hlocks hr dJ4_append_bf812_7 rfl rfl

set_option maxHeartbeats 1000000 in
set_option maxRecDepth 100000 in
theorem c_B_length (l : Launch) (G : xG) (d : xd)  : x_M G l yJ5_length_8abf5 wsJ5_length_8abf5 1 0 0 [.ref (x_b G + 173)] d (some (.int (d 173 3))) d := by
  have iJ4 : ∀ w ∈ u_ws RJ4 TJ4 4, w ∈ wsJ5_length_8abf5 := by decide +kernel
  refine x_start (cc := cJ5_length_8abf5) (maxL := 1) (ret := (some .int)) (own := RJ5) (by decide) rfl rfl (Nat.le_of_ble_eq_true rfl) (lst := [(0, .ref (x_b G + 173))]) rfl ?_
  intro p e s m args below meth c C hr hlocks
  refine a_aload_n C dJ5_length_8abf5_0 0 rfl ?_
  refine a_getI C (k := 173) iJ4 x_k173 rfl (j := 3) rfl (by decide) (by decide +kernel) dJ5_length_8abf5_1 ?_
  exact a_iret C hlocks hr dJ5_length_8abf5_4 rfl rfl

set_option maxHeartbeats 1000000 in
set_option maxRecDepth 100000 in
theorem c_L_length (l : Launch) (G : xG) (d : xd)  : x_M G l yJ4_length_8abf5 wsJ4_length_8abf5 2 0 0 [.ref (x_b G + 173)] d (some (.int (d 173 3))) d := by
  refine x_start (cc := cJ4_length_8abf5) (maxL := 1) (ret := (some .int)) (own := RJ4) (by decide) rfl rfl (Nat.le_of_ble_eq_true rfl) (lst := [(0, .ref (x_b G + 173))]) rfl ?_
  intro p e s m args below meth c C hr hlocks
  refine a_aload_n C dJ4_length_8abf5_0 0 rfl ?_
  refine a_callSU C (k := 173) (As := []) (rest := []) (c_B_length l G d) (va_cwSU 0 C.1.2.2.2.2 gJ4_length_8abf5_J5_length_8abf5_s343 rfl rfl rfl (by decide +kernel) ⟨Nat.le_of_ble_eq_true rfl, Nat.le_of_ble_eq_true rfl⟩) x_k173 (q := (RJ4, TJ4, 4)) rfl rfl rfl (Nat.le_of_ble_eq_true rfl) dJ4_length_8abf5_1 ⟨Nat.le_of_ble_eq_true rfl, Nat.le_of_ble_eq_true rfl⟩ ?_
  exact a_iret C hlocks hr dJ4_length_8abf5_4 rfl rfl

set_option maxHeartbeats 1000000 in
set_option maxRecDepth 100000 in
theorem c_B_charAt (l : Launch) (G : xG) (d : xd) (k i : Nat) (hk : d 173 3 = nI k) (hk9 : k ≤ 16) (hi : i < k) (a : Nat) (ha : a < 128) (hda : d 174 i = nI a) (hco : d 173 1 = 0) : x_M G l yJ5_charAt_5068e wsJ5_charAt_5068e 3 0 0 [.ref (x_b G + 173), .int (nI i)] d (some (.int (nI a))) d := by
  have iJ4 : ∀ w ∈ u_ws RJ4 TJ4 4, w ∈ wsJ5_charAt_5068e := by decide +kernel
  refine x_start (cc := cJ5_charAt_5068e) (maxL := 5) (ret := (some .char)) (own := RJ5) (by decide) rfl rfl (Nat.le_of_ble_eq_true rfl) (lst := [(0, .ref (x_b G + 173)), (1, .int (nI i))]) rfl ?_
  intro p e s m args below meth c C hr hlocks
  refine a_aload_n C dJ5_charAt_5068e_0 0 rfl ?_
  refine a_getI C (k := 173) iJ4 x_k173 rfl (j := 1) rfl (by decide) (by decide +kernel) dJ5_charAt_5068e_1 ?_
  refine a_top (y := 0) hco ?_
  refine a_istore_n C dJ5_charAt_5068e_4 (by decide) (lst2 := [(2, .int 0), (0, .ref (x_b G + 173)), (1, .int (nI i))]) rfl ?_
  refine a_aload_n C dJ5_charAt_5068e_5 1 rfl ?_
  refine a_getR C (k := 173) iJ4 x_k173 rfl (j := 0) rfl (by decide) (by decide +kernel) dJ5_charAt_5068e_6 ?_
  refine a_astore_n C dJ5_charAt_5068e_9 (by decide) (lst2 := [(3, .ref (x_b G + 174)), (2, .int 0), (0, .ref (x_b G + 173)), (1, .int (nI i))]) rfl ?_
  refine a_aload_n C dJ5_charAt_5068e_10 2 rfl ?_
  refine a_getI C (k := 173) iJ4 x_k173 rfl (j := 3) rfl (by decide) (by decide +kernel) dJ5_charAt_5068e_11 ?_
  refine a_top (y := (nI k)) hk ?_
  refine a_aload_n C dJ5_charAt_5068e_14 0 rfl ?_
  refine a_alen C (k := 174) x_k174 (v := 16) rfl dJ5_charAt_5068e_15 ?_
  refine a_iload_n C dJ5_charAt_5068e_16 1 rfl ?_
  refine a_ishr C dJ5_charAt_5068e_17 ?_
  refine a_top (y := 16) (x_shr0 _) ?_
  refine a_mmin C (by decide +kernel) (by decide +kernel) (by decide +kernel) (by decide +kernel) (Nat.le_of_ble_eq_true rfl) (Nat.le_of_ble_eq_true rfl) (Nat.le_of_ble_eq_true rfl) (Nat.le_of_ble_eq_true rfl) dJ5_charAt_5068e_18 ?_
  refine a_top (y := (nI k)) (if_neg (Int32.not_lt.mpr ((nI_leI (b := 16) (by omega) (by omega)).mpr hk9))) ?_
  refine a_istore C dJ5_charAt_5068e_21 (by decide) (lst2 := [(4, .int (nI k)), (3, .ref (x_b G + 174)), (2, .int 0), (0, .ref (x_b G + 173)), (1, .int (nI i))]) rfl ?_
  refine a_iload_n C dJ5_charAt_5068e_23 4 rfl ?_
  refine a_iload C dJ5_charAt_5068e_24 0 rfl ?_
  refine a_callS C (As := [.int (nI i), .int (nI k)]) (rest := []) (c_J0_checkIndex l G d i k hi (by omega)) (va_cwS 2 C.1.2.2.2.2 gJ5_charAt_5068e_J0_checkIndex_df160 rfl rfl rfl (by decide +kernel) ⟨Nat.le_of_ble_eq_true rfl, Nat.le_of_ble_eq_true rfl⟩) rfl rfl (Nat.le_of_ble_eq_true rfl) dJ5_charAt_5068e_26 ⟨Nat.le_of_ble_eq_true rfl, Nat.le_of_ble_eq_true rfl⟩ ?_
  refine a_iload_n C dJ5_charAt_5068e_29 2 rfl ?_
  refine a_if_ne C dJ5_charAt_5068e_30 (tgt := 42) (by decide) (fun h => absurd h (by decide)) (fun _ => ?_)
  refine a_aload_n C dJ5_charAt_5068e_33 1 rfl ?_
  refine a_iload_n C dJ5_charAt_5068e_34 4 rfl ?_
  refine a_baldN C (k := 174) x_k174 (i := i) rfl (by omega) (by first | decide | omega) dJ5_charAt_5068e_35 ?_
  refine a_top (y := (nI a)) hda ?_
  refine a_sipush C dJ5_charAt_5068e_36 (v := 255) (by decide) ?_
  refine a_iand C dJ5_charAt_5068e_39 ?_
  refine a_top (y := (nI a)) (x_and255 ha) ?_
  refine a_i2c C dJ5_charAt_5068e_40 (v := (nI a)) (x_chr2 (by omega)) ?_
  exact a_zret C hlocks hr (pk_charN (by omega)).1 dJ5_charAt_5068e_41 rfl rfl

set_option maxHeartbeats 1000000 in
set_option maxRecDepth 100000 in
theorem c_L_charAt (l : Launch) (G : xG) (d : xd) (k i : Nat) (hk : d 173 3 = nI k) (hk9 : k ≤ 16) (hi : i < k) (a : Nat) (ha : a < 128) (hda : d 174 i = nI a) (hco : d 173 1 = 0) : x_M G l yJ4_charAt_5068e wsJ4_charAt_5068e 4 0 0 [.ref (x_b G + 173), .int (nI i)] d (some (.int (nI a))) d := by
  refine x_start (cc := cJ4_charAt_5068e) (maxL := 2) (ret := (some .char)) (own := RJ4) (by decide) rfl rfl (Nat.le_of_ble_eq_true rfl) (lst := [(0, .ref (x_b G + 173)), (1, .int (nI i))]) rfl ?_
  intro p e s m args below meth c C hr hlocks
  refine a_aload_n C dJ4_charAt_5068e_0 0 rfl ?_
  refine a_iload_n C dJ4_charAt_5068e_1 1 rfl ?_
  refine a_callSU C (k := 173) (As := [.int (nI i)]) (rest := []) (c_B_charAt l G d k i hk hk9 hi a ha hda hco) (va_cwSU 1 C.1.2.2.2.2 gJ4_charAt_5068e_J5_charAt_5068e_s329 rfl rfl rfl (by decide +kernel) ⟨Nat.le_of_ble_eq_true rfl, Nat.le_of_ble_eq_true rfl⟩) x_k173 (q := (RJ4, TJ4, 4)) rfl rfl rfl (Nat.le_of_ble_eq_true rfl) dJ4_charAt_5068e_2 ⟨Nat.le_of_ble_eq_true rfl, Nat.le_of_ble_eq_true rfl⟩ ?_
  exact a_zret C hlocks hr (pk_charN (by omega)).1 dJ4_charAt_5068e_5 rfl rfl

