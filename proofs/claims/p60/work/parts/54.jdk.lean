def x_wN (v i : Nat) : Nat := (x_wB v i).toNatClampNeg
theorem x_wL_27 : ∀ v, v < 27 → x_wL v ≤ 60 := by decide +kernel
theorem x_wB_27 : ∀ v, v < 27 → ∀ i, i < x_wL v → (x_wB v i = nI (x_wN v i) ∧ x_wN v i < 128 ∧ 32 ≤ x_wN v i ∧ (nI (x_wN v i) &&& 255) = nI (x_wN v i)) := by decide +kernel
theorem x_wL_lt : ∀ v, v < 13 → x_wL v ≤ 6 ∧ 2 ≤ x_wL v := by decide +kernel
theorem x_wB_ok : ∀ v, v < 13 → ∀ i, i < x_wL v → (x_wB v i = nI (x_wN v i) ∧ x_wN v i < 128 ∧ 97 ≤ x_wN v i ∧ (nI (x_wN v i) &&& 255) = nI (x_wN v i)) := by decide +kernel
theorem x_shr0 (x : Int32) : x >>> (0 &&& 31) = x := by
  rw [show ((0 : Int32) &&& 31) = 0 from rfl]
  simp
theorem x_chr2 {k : Nat} (h : k < 65536) : ((nI k).toUInt32 % 65536).toInt32 = nI k := by
  rw [pk_char]
  congr 1
  have e : (nI k).toBitVec.toNat = k := by
    show (BitVec.ofNat 32 k).toNat = k
    rw [BitVec.toNat_ofNat]
    omega
  rw [e]
  omega
set_option maxHeartbeats 1000000 in
set_option maxRecDepth 100000 in
theorem c_S_coder (l : Launch) (G : xG) (d : xd) (v : Nat) (hv : v < 27) : x_M G l yJ0_coder_7d493 wsJ0_coder_7d493 1 0 0 [.ref (x_e G 2 v)] d (some (.int 0)) d := by
  refine x_start (cc := cJ0_coder_7d493) (maxL := 1) (ret := (some .byte)) (own := RJ0) (by decide) rfl rfl (Nat.le_of_ble_eq_true rfl) (lst := [(0, .ref (x_e G 2 v))]) rfl ?_
  intro p e s m args below meth c C hr hlocks
  refine a_getsCS C (by decide +kernel) dJ0_coder_7d493_0 ?_
  refine a_if_eq C dJ0_coder_7d493_3 (tgt := 13) (by decide) (fun h => absurd h (by decide)) (fun _ => ?_)
  refine a_aload_n C dJ0_coder_7d493_6 0 rfl ?_
  refine a_getSc C (v := v) (by first | assumption | omega) (by decide +kernel) dJ0_coder_7d493_7 ?_
  refine a_goto C dJ0_coder_7d493_10 (tgt := 14) (by decide) ?_
  exact a_zret C hlocks hr rfl dJ0_coder_7d493_14 rfl rfl

set_option maxHeartbeats 1000000 in
set_option maxRecDepth 100000 in
theorem c_S_length (l : Launch) (G : xG) (d : xd) (v : Nat) (hv : v < 27) : x_M G l yJ0_length_8abf5 wsJ0_length_8abf5 2 0 0 [.ref (x_e G 2 v)] d (some (.int (nI (x_wL v)))) d := by
  refine x_start (cc := cJ0_length_8abf5) (maxL := 1) (ret := (some .int)) (own := RJ0) (by decide) rfl rfl (Nat.le_of_ble_eq_true rfl) (lst := [(0, .ref (x_e G 2 v))]) rfl ?_
  intro p e s m args below meth c C hr hlocks
  refine a_aload_n C dJ0_length_8abf5_0 0 rfl ?_
  refine a_getSv C (v := v) (by first | assumption | omega) (by decide +kernel) dJ0_length_8abf5_1 ?_
  refine a_alenS C (v := v) (by first | assumption | omega) dJ0_length_8abf5_4 ?_
  refine a_aload_n C dJ0_length_8abf5_5 0 rfl ?_
  refine a_callR C (b := x_e G 2 v) (As := []) (rest := [.int (nI (x_wL v))]) (c_S_coder l G d v hv) (cwV 0 C.1.2.2.2.2 gJ0_length_8abf5_J0_coder_7d493 rfl rfl rfl (by decide +kernel) ⟨Nat.le_of_ble_eq_true rfl, Nat.le_of_ble_eq_true rfl⟩) (x_recS C (by first | assumption | omega)) rfl rfl (Nat.le_of_ble_eq_true rfl) dJ0_length_8abf5_6 ⟨Nat.le_of_ble_eq_true rfl, Nat.le_of_ble_eq_true rfl⟩ ?_
  refine a_ishr C dJ0_length_8abf5_9 ?_
  refine a_top (y := (nI (x_wL v))) (x_shr0 _) ?_
  exact a_iret C hlocks hr dJ0_length_8abf5_10 rfl rfl

set_option maxHeartbeats 1000000 in
set_option maxRecDepth 100000 in
theorem c_S_isLatin1 (l : Launch) (G : xG) (d : xd) (v : Nat) (hv : v < 27) : x_M G l yJ0_isLatin1_aae02 wsJ0_isLatin1_aae02 1 0 0 [.ref (x_e G 2 v)] d (some (.int 1)) d := by
  refine x_start (cc := cJ0_isLatin1_aae02) (maxL := 1) (ret := (some .boolean)) (own := RJ0) (by decide) rfl rfl (Nat.le_of_ble_eq_true rfl) (lst := [(0, .ref (x_e G 2 v))]) rfl ?_
  intro p e s m args below meth c C hr hlocks
  refine a_getsCS C (by decide +kernel) dJ0_isLatin1_aae02_0 ?_
  refine a_if_eq C dJ0_isLatin1_aae02_3 (tgt := 17) (by decide) (fun h => absurd h (by decide)) (fun _ => ?_)
  refine a_aload_n C dJ0_isLatin1_aae02_6 0 rfl ?_
  refine a_getSc C (v := v) (by first | assumption | omega) (by decide +kernel) dJ0_isLatin1_aae02_7 ?_
  refine a_if_ne C dJ0_isLatin1_aae02_10 (tgt := 17) (by decide) (fun h => absurd h (by decide)) (fun _ => ?_)
  refine a_iconst C dJ0_isLatin1_aae02_13 (v := 1) (by decide) ?_
  refine a_goto C dJ0_isLatin1_aae02_14 (tgt := 18) (by decide) ?_
  exact a_zret C hlocks hr rfl dJ0_isLatin1_aae02_18 rfl rfl

set_option maxHeartbeats 1000000 in
set_option maxRecDepth 100000 in
theorem c_J3_checkIndex_n (l : Launch) (G : xG) (d : xd) (i n : Nat) (hi : i < n) (hn : n < 1000) : x_M G l yJ3_checkIndex_8e157 wsJ3_checkIndex_8e157 1 0 0 [.int (nI i), .int (nI n), .null] d (some (.int (nI i))) d := by
  refine x_start (cc := cJ3_checkIndex_8e157) (maxL := 3) (ret := (some .int)) (own := RJ3) (by decide) rfl rfl (Nat.le_of_ble_eq_true rfl) (lst := [(0, .int (nI i)), (1, .int (nI n)), (2, .null)]) rfl ?_
  intro p e s m args below meth c C hr hlocks
  refine a_iload_n C dJ3_checkIndex_8e157_0 0 rfl ?_
  refine a_if_lt C dJ3_checkIndex_8e157_1 (tgt := 9) (by decide) (fun h => absurd h (nI_pos (by omega))) (fun h1 => ?_)
  refine a_iload_n C dJ3_checkIndex_8e157_4 0 rfl ?_
  refine a_iload_n C dJ3_checkIndex_8e157_5 1 rfl ?_
  refine a_icmp_lt C dJ3_checkIndex_8e157_6 (tgt := 16) (by decide) (fun h6 => ?_) (fun h => False.elim (h ((nI_ltI (by omega) (by omega)).mpr hi)))
  refine a_iload_n C dJ3_checkIndex_8e157_16 0 rfl ?_
  exact a_iret C hlocks hr dJ3_checkIndex_8e157_17 rfl rfl

set_option maxHeartbeats 1000000 in
set_option maxRecDepth 100000 in
theorem c_J3_checkIndex_r (l : Launch) (G : xG) (d : xd) (i n : Nat) (hi : i < n) (hn : n < 1000) (t9 : Nat) : x_M G l yJ3_checkIndex_8e157 wsJ3_checkIndex_8e157 1 0 0 [.int (nI i), .int (nI n), .ref t9] d (some (.int (nI i))) d := by
  refine x_start (cc := cJ3_checkIndex_8e157) (maxL := 3) (ret := (some .int)) (own := RJ3) (by decide) rfl rfl (Nat.le_of_ble_eq_true rfl) (lst := [(0, .int (nI i)), (1, .int (nI n)), (2, .ref t9)]) rfl ?_
  intro p e s m args below meth c C hr hlocks
  refine a_iload_n C dJ3_checkIndex_8e157_0 0 rfl ?_
  refine a_if_lt C dJ3_checkIndex_8e157_1 (tgt := 9) (by decide) (fun h => absurd h (nI_pos (by omega))) (fun h1 => ?_)
  refine a_iload_n C dJ3_checkIndex_8e157_4 0 rfl ?_
  refine a_iload_n C dJ3_checkIndex_8e157_5 1 rfl ?_
  refine a_icmp_lt C dJ3_checkIndex_8e157_6 (tgt := 16) (by decide) (fun h6 => ?_) (fun h => False.elim (h ((nI_ltI (by omega) (by omega)).mpr hi)))
  refine a_iload_n C dJ3_checkIndex_8e157_16 0 rfl ?_
  exact a_iret C hlocks hr dJ3_checkIndex_8e157_17 rfl rfl

theorem c_J3_checkIndex (l : Launch) (G : xG) (d : xd) (i n : Nat) (hi : i < n) (hn : n < 1000) (fv : Value) (hfv : x_rn fv) : x_M G l yJ3_checkIndex_8e157 wsJ3_checkIndex_8e157 1 0 0 [.int (nI i), .int (nI n), fv] d (some (.int (nI i))) d := by
  rcases hfv with rfl | ⟨t, rfl⟩
  · exact c_J3_checkIndex_n l G d i n hi hn
  · exact c_J3_checkIndex_r l G d i n hi hn t
set_option maxHeartbeats 1000000 in
set_option maxRecDepth 100000 in
theorem c_J0_checkIndex (l : Launch) (G : xG) (d : xd) (i n : Nat) (hi : i < n) (hn : n < 1000) : x_M G l yJ0_checkIndex_df160 wsJ0_checkIndex_df160 2 0 0 [.int (nI i), .int (nI n)] d none d := by
  refine x_start (cc := cJ0_checkIndex_df160) (maxL := 2) (ret := none) (own := RJ0) (by decide) rfl rfl (Nat.le_of_ble_eq_true rfl) (lst := [(0, .int (nI i)), (1, .int (nI n))]) rfl ?_
  intro p e s m args below meth c C hr hlocks
  refine a_iload_n C dJ0_checkIndex_df160_0 0 rfl ?_
  refine a_iload_n C dJ0_checkIndex_df160_1 1 rfl ?_
  refine a_getsQ C (by decide +kernel) dJ0_checkIndex_df160_2 (fun fv hfv => ?_)
  refine a_callS C (As := [.int (nI i), .int (nI n), fv]) (rest := []) (c_J3_checkIndex l G d i n hi hn fv hfv) (va_cwS 3 C.1.2.2.2.2 gJ0_checkIndex_df160_J3_checkIndex_8e157 rfl rfl rfl (by decide +kernel) ⟨Nat.le_of_ble_eq_true rfl, Nat.le_of_ble_eq_true rfl⟩) rfl rfl (Nat.le_of_ble_eq_true rfl) dJ0_checkIndex_df160_5 ⟨Nat.le_of_ble_eq_true rfl, Nat.le_of_ble_eq_true rfl⟩ ?_
  refine a_pop C dJ0_checkIndex_df160_8 rfl ?_
  exact a_vret C hlocks hr dJ0_checkIndex_df160_9 rfl

set_option maxHeartbeats 1000000 in
set_option maxRecDepth 100000 in
theorem c_J1_charAt (l : Launch) (G : xG) (d : xd) (v : Nat) (hv : v < 27) (i : Nat) (hi : i < x_wL v) : x_M G l yJ1_charAt_3b067 wsJ1_charAt_3b067 3 0 0 [.ref (x_e G 3 v), .int (nI i)] d (some (.int (nI (x_wN v i)))) d := by
  have hL := x_wL_27 v hv
  have hB := x_wB_27 v hv i hi
  have h1000 : x_wL v < 1000 := by omega
  refine x_start (cc := cJ1_charAt_3b067) (maxL := 2) (ret := (some .char)) (own := RJ1) (by decide) rfl rfl (Nat.le_of_ble_eq_true rfl) (lst := [(0, .ref (x_e G 3 v)), (1, .int (nI i))]) rfl ?_
  intro p e s m args below meth c C hr hlocks
  refine a_iload_n C dJ1_charAt_3b067_0 1 rfl ?_
  refine a_aload_n C dJ1_charAt_3b067_1 0 rfl ?_
  refine a_alenS C (v := v) (by first | assumption | omega) dJ1_charAt_3b067_2 ?_
  refine a_callS C (As := [.int (nI i), .int (nI (x_wL v))]) (rest := []) (c_J0_checkIndex l G d i (x_wL v) hi (by omega)) (va_cwS 2 C.1.2.2.2.2 gJ1_charAt_3b067_J0_checkIndex_df160 rfl rfl rfl (by decide +kernel) ⟨Nat.le_of_ble_eq_true rfl, Nat.le_of_ble_eq_true rfl⟩) rfl rfl (Nat.le_of_ble_eq_true rfl) dJ1_charAt_3b067_3 ⟨Nat.le_of_ble_eq_true rfl, Nat.le_of_ble_eq_true rfl⟩ ?_
  refine a_aload_n C dJ1_charAt_3b067_6 0 rfl ?_
  refine a_iload_n C dJ1_charAt_3b067_7 1 rfl ?_
  refine a_baS C (v := v) (i := i) (by first | assumption | omega) rfl (by omega) (by first | assumption | omega) dJ1_charAt_3b067_8 ?_
  refine a_top (y := (nI (x_wN v i))) hB.1 ?_
  refine a_sipush C dJ1_charAt_3b067_9 (v := 255) (by decide) ?_
  refine a_iand C dJ1_charAt_3b067_12 ?_
  refine a_top (y := (nI (x_wN v i))) hB.2.2.2 ?_
  refine a_i2c C dJ1_charAt_3b067_13 (v := (nI (x_wN v i))) (x_chr2 (by omega)) ?_
  exact a_zret C hlocks hr (pk_charN (by omega)).1 dJ1_charAt_3b067_14 rfl rfl

set_option maxHeartbeats 1000000 in
set_option maxRecDepth 100000 in
theorem c_S_charAt (l : Launch) (G : xG) (d : xd) (v : Nat) (hv : v < 27) (i : Nat) (hi : i < x_wL v) : x_M G l yJ0_charAt_5068e wsJ0_charAt_5068e 4 0 0 [.ref (x_e G 2 v), .int (nI i)] d (some (.int (nI (x_wN v i)))) d := by
  have hL := x_wL_27 v hv
  have hB := x_wB_27 v hv i hi
  have h1000 : x_wL v < 1000 := by omega
  refine x_start (cc := cJ0_charAt_5068e) (maxL := 2) (ret := (some .char)) (own := RJ0) (by decide) rfl rfl (Nat.le_of_ble_eq_true rfl) (lst := [(0, .ref (x_e G 2 v)), (1, .int (nI i))]) rfl ?_
  intro p e s m args below meth c C hr hlocks
  refine a_aload_n C dJ0_charAt_5068e_0 0 rfl ?_
  refine a_callR C (b := x_e G 2 v) (As := []) (rest := []) (c_S_isLatin1 l G d v hv) (cwV 0 C.1.2.2.2.2 gJ0_charAt_5068e_J0_isLatin1_aae02 rfl rfl rfl (by decide +kernel) ⟨Nat.le_of_ble_eq_true rfl, Nat.le_of_ble_eq_true rfl⟩) (x_recS C (by first | assumption | omega)) rfl rfl (Nat.le_of_ble_eq_true rfl) dJ0_charAt_5068e_1 ⟨Nat.le_of_ble_eq_true rfl, Nat.le_of_ble_eq_true rfl⟩ ?_
  refine a_if_eq C dJ0_charAt_5068e_4 (tgt := 16) (by decide) (fun h => absurd h (by decide)) (fun _ => ?_)
  refine a_aload_n C dJ0_charAt_5068e_7 0 rfl ?_
  refine a_getSv C (v := v) (by first | assumption | omega) (by decide +kernel) dJ0_charAt_5068e_8 ?_
  refine a_iload_n C dJ0_charAt_5068e_11 1 rfl ?_
  refine a_callS C (As := [.ref (x_e G 3 v), .int (nI i)]) (rest := []) (c_J1_charAt l G d v hv i hi) (va_cwS 2 C.1.2.2.2.2 gJ0_charAt_5068e_J1_charAt_3b067 rfl rfl rfl (by decide +kernel) ⟨Nat.le_of_ble_eq_true rfl, Nat.le_of_ble_eq_true rfl⟩) rfl rfl (Nat.le_of_ble_eq_true rfl) dJ0_charAt_5068e_12 ⟨Nat.le_of_ble_eq_true rfl, Nat.le_of_ble_eq_true rfl⟩ ?_
  exact a_zret C hlocks hr (pk_charN (by omega)).1 dJ0_charAt_5068e_15 rfl rfl

set_option maxHeartbeats 1000000 in
set_option maxRecDepth 100000 in
theorem c_E_ordinal (l : Launch) (G : xG) (d : xd) (v : Nat) (hv : v < 13) : x_M G l yJx29ce0_ordinal_8abf5 wsJx29ce0_ordinal_8abf5 1 0 0 [.ref (x_e G 0 v)] d (some (.int (x_vo v))) d := by
  refine x_start (cc := cJx29ce0_ordinal_8abf5) (maxL := 1) (ret := (some .int)) (own := RJx29ce0) (by decide) rfl rfl (Nat.le_of_ble_eq_true rfl) (lst := [(0, .ref (x_e G 0 v))]) rfl ?_
  intro p e s m args below meth c C hr hlocks
  refine a_aload_n C dJx29ce0_ordinal_8abf5_0 0 rfl ?_
  refine a_getVo C (v := v) (by first | assumption | omega) (by decide +kernel) dJx29ce0_ordinal_8abf5_1 ?_
  exact a_iret C hlocks hr dJx29ce0_ordinal_8abf5_4 rfl rfl

theorem x_sub_le {a b : Nat} (h : a ≤ b) (hb : b < 2 ^ 30) : nI a - nI b ≤ 0 := by
  have e := pk_sub_toInt (a := a) (b := b) (by omega) hb
  have z : (0 : Int32).toInt = 0 := rfl
  rw [Int32.le_iff_toInt_le, e, z]
  omega
theorem x_neg_toInt {a : Nat} (h : a < 2 ^ 30) : (-(nI a)).toInt = -(a : Int) := by
  have e := pk_sub_toInt (a := 0) (b := a) (by omega) h
  rw [show nI 0 - nI a = -(nI a) from Int32.zero_sub _] at e
  rw [e]
  omega
theorem x_neg_le {a b : Nat} (ha : a < 2 ^ 30) (hb : b < 2 ^ 30) : -(nI a) ≤ -(nI b) ↔ b ≤ a := by
  rw [Int32.le_iff_toInt_le, x_neg_toInt ha, x_neg_toInt hb]
  omega
theorem x_byt {k : Nat} (h : k < 128) : (nI k).toInt8.toInt32 = nI k := by
  have q : ∀ k, k < 128 → (nI k).toInt8.toInt32 = nI k := by decide +kernel
  exact q k h
theorem x_byn {k : Nat} (h : k < 128) : vp_nar .byte (nI k) = nI k := by
  rw [vp_nar_byte]
  exact x_byt h
theorem x_and255 {k : Nat} (h : k < 128) : nI k &&& 255 = nI k := by
  have q : ∀ k, k < 128 → nI k &&& 255 = nI k := by decide +kernel
  exact q k h
def f_sl0 (d : xd) (k : Nat) : xd := if nI k ≤ 0 then x_p d 173 3 0 else x_p (x_p d 173 2 1) 173 3 0
def f_ac (d : xd) (k a : Nat) : xd := x_p (x_p d 173 3 (nI (k + 1))) 174 k (nI a)
def f_ai (d : xd) (k v : Nat) : xd := if v < 10 then x_p (x_p d 174 k (nI (48 + v))) 173 3 (nI (k + 1)) else x_p (x_p (x_p d 174 (k + 1) (nI (48 + v % 10))) 174 k (nI (48 + v / 10))) 173 3 (nI (k + 2))
