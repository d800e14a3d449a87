/-! one command of a text: the class's refusalOf and perform, the model's carriesOut -/
def y_me (E : xd) (z : Nat → Int32) (v a b i : Nat) : Prop := E 176 = z ∧ E 182 (3 * i) = nI (tp_mc v) ∧ (1 ≤ tp_vn v → E 182 (3 * i + 1) = nI a) ∧ (2 ≤ tp_vn v → E 182 (3 * i + 2) = nI b)
def y_mok (l : Launch) (z z2 : Nat → Int32) (v a b i : Nat) : Prop := ∀ (G : xG) (E : xd), y_me E z v a b i → ∃ r : Int32, x_M G l yX12_carriesOut wsX12_carriesOut 6 0 0 [.ref (x_b G + 175), .int (nI (3 * i))] E (some (.int r)) (g_ok E z2)
def y_mbad (l : Launch) (z : Nat → Int32) (v a b i : Nat) : Prop := ∀ (G : xG) (E : xd), y_me E z v a b i → ∃ r x : Int32, ¬ x = 0 ∧ x_M G l yX12_carriesOut wsX12_carriesOut 6 0 0 [.ref (x_b G + 175), .int (nI (3 * i))] E (some (.int r)) (g_th E x)
def y_cok (l : Launch) (D D2 : xd) (v a b : Nat) : Prop := (∀ G : xG, x_M G l yX11_refusalOf wsX11_refusalOf 5 0 0 [.ref (x_b G + 0), .ref (x_e G 0 v), .int (nI a), .int (nI b)] D (some (.ref (x_e G 1 0))) D) ∧ (∀ G : xG, x_M G l yX11_perform wsX11_perform 6 0 0 [.ref (x_b G + 0), .ref (x_e G 0 v), .int (nI a), .int (nI b)] D none D2) ∧ y_fr D D2
def y_cbad (l : Launch) (D : xd) (v a b : Nat) : Prop := ∃ f9, f9 < 4 ∧ f9 ≠ 0 ∧ ∀ G : xG, x_M G l yX11_refusalOf wsX11_refusalOf 5 0 0 [.ref (x_b G + 0), .ref (x_e G 0 v), .int (nI a), .int (nI b)] D (some (.ref (x_e G 1 f9))) D
def y_cmd (l : Launch) (B : Nat) (D : xd) (z : Nat → Int32) (v a b i : Nat) : Prop := (∃ (D2 : xd) (z2 : Nat → Int32), y_cok l D D2 v a b ∧ r_S (B + 12) D2 1 z2 ∧ y_mok l z z2 v a b i) ∨ (y_cbad l D v a b ∧ y_mbad l z v a b i)
theorem g_ok_self {E : xd} {z : Nat → Int32} (h : E 176 = z) : g_ok E z = g_th E 0 := by
  have e : x_r E 176 z = E := by
    funext k
    by_cases hk : k = 176
    · subst hk
      rw [x_r_same, h]
    · rw [x_r_ne2 hk]
  show x_p (x_r E 176 z) 175 12 0 = _
  rw [e]
theorem o_nix {a i : Nat} (ha : a < 1000) {n : Nat} (hi : i < n) (h8 : n ≤ 8) (e : nI a = nI i) : a = i := (nI_eq (by omega) (by omega)).mp e
theorem o_nrg {a lo hi9 : Nat} (ha : a < 1000) (hh : hi9 < 1000) (hl : lo ≤ hi9) (h : nI lo ≤ nI a ∧ nI a ≤ nI hi9) : lo ≤ a ∧ a ≤ hi9 := ⟨(nI_leI (by omega) (by omega)).mp h.1, (nI_leI (by omega) (by omega)).mp h.2⟩
theorem k_0 {l : Launch} {B : Nat} {D : xd} {z : Nat → Int32} {n w : Nat} (t : r_T B D 1 z n w) (hB : B + 12 < 100000) {a b i9 : Nat} (ha : a < 1000) (hb : b < 1000) (hi9 : i9 < 59) : y_cmd l B D z 0 a b i9 := by
  obtain ⟨⟨hn, hn2, hw, hw2, e5, e6, e7⟩, ⟨h8, h6, v3, v4, v5⟩, -, -⟩ := id t
  rcases o_ra (nI a) (nI b) hn h8 with ⟨h0, hx, hy, hn8⟩ | ⟨h0, hx⟩ | ⟨h0, hx, hy, rfl⟩
  · obtain ⟨a1, a2⟩ := o_nrg (lo := 0) (hi9 := 3) ha (by decide) (by decide) hx
    obtain ⟨b1, b2⟩ := o_nrg (lo := 1) (hi9 := 9) hb (by decide) (by decide) hy
    refine Or.inl ⟨_, _, ⟨fun G => ?_, fun G => c_F_perform_0 l G D _ _ n hn hn8, fun k hk => by unfold f_app; repeat (first | rw [x_p_ne (by omega)] | rw [x_r_ne2 (by omega)])⟩, y_up (t_add t hn8 ⟨a, by omega, rfl⟩ ⟨b, b1, b2, rfl⟩) (by omega), fun G E ⟨m1, m2, m3, m4⟩ => ⟨_, c_M_carriesOut_0 l G E (3 * i9) (by omega) m2 _ _ (m3 (by decide +kernel)) (m4 (by decide +kernel)) _ _ (by rw [← m1]; exact c_M_adds l G E _ _ n hx hy (by rw [m1]; exact hn2) hn8)⟩⟩
    have hr := c_F_refusalOf_0 l G D (nI a) (nI b)
    rw [h0] at hr
    exact hr
  · refine Or.inr ⟨⟨2, by decide, by decide, fun G => ?_⟩, fun G E ⟨m1, m2, m3, m4⟩ => ⟨_, 1, by decide, c_M_carriesOut_0 l G E (3 * i9) (by omega) m2 _ _ (m3 (by decide +kernel)) (m4 (by decide +kernel)) _ _ (by exact c_M_adds_1 l G E _ _ hx)⟩⟩
    have hr := c_F_refusalOf_0 l G D (nI a) (nI b)
    rw [h0] at hr
    exact hr
  · refine Or.inr ⟨⟨3, by decide, by decide, fun G => ?_⟩, fun G E ⟨m1, m2, m3, m4⟩ => ⟨_, 2, by decide, c_M_carriesOut_0 l G E (3 * i9) (by omega) m2 _ _ (m3 (by decide +kernel)) (m4 (by decide +kernel)) _ _ (by exact c_M_adds_2 l G E _ _ hx hy (by rw [m1]; exact hn2))⟩⟩
    have hr := c_F_refusalOf_0 l G D (nI a) (nI b)
    rw [h0] at hr
    exact hr
theorem k_1 {l : Launch} {B : Nat} {D : xd} {z : Nat → Int32} {n w : Nat} (t : r_T B D 1 z n w) (hB : B + 12 < 100000) {a b i9 : Nat} (ha : a < 1000) (hb : b < 1000) (hi9 : i9 < 59) : y_cmd l B D z 1 a b i9 := by
  obtain ⟨⟨hn, hn2, hw, hw2, e5, e6, e7⟩, ⟨h8, h6, v3, v4, v5⟩, -, -⟩ := id t
  rcases o_rd (nI a) hn h8 with ⟨h0, i, hi, he, hp⟩ | ⟨h0, hx⟩ | ⟨h0, i, hi, he, hp⟩
  · obtain rfl := o_nix ha hi h8 he
    obtain ⟨u, hu, hvu⟩ := v5
    obtain ⟨-, -, -, -, q, hq, hvq⟩ := v3 a hi
    have hvu : D 14 1 = nI u := hvu
    have hvq : D 8 a = nI q := hvq
    have hab : u + q ≤ 99 := by
      rw [hvu, hvq, nI_add] at hp
      exact (nI_leI (by omega) (by decide)).mp hp
    obtain ⟨n, rfl⟩ : ∃ j, n = j + 1 := ⟨n - 1, by omega⟩
    have hp2 : ¬ 99 < z 4 + z (46 + a) := by
      rw [← (e5 a hi).2.2.2.2.2.1, ← e7.2.2.1]
      exact k2_nlt hp
    refine Or.inl ⟨_, _, ⟨fun G => ?_, fun G => c_F_perform_1 l G D _ a (n + 1) hn h8 hi w hw h6, fun k hk => by rw [f_drop_out (by omega) (by omega), f_dw_out (by omega)]⟩, y_up (t_drop t hi ⟨u + q, hab, (congr (congrArg HAdd.hAdd hvu) hvq).trans (nI_add u q)⟩ (by omega)) (by omega), fun G E ⟨m1, m2, m3, m4⟩ => ⟨_, c_M_carriesOut_1 l G E (3 * i9) (by omega) m2 _ _ (m3 (by decide +kernel)) rfl _ _ (by rw [← m1]; exact c_M_removes l G E a (n + 1) (by rw [m1]; exact hn2) h8 hi w (by rw [m1]; exact hw2) h6 (by rw [m1]; exact hp2))⟩⟩
    have hr := c_F_refusalOf_1 l G D (nI a) (nI b) (n + 1) hn h8
    rw [h0] at hr
    exact hr
  · refine Or.inr ⟨⟨1, by decide, by decide, fun G => ?_⟩, fun G E ⟨m1, m2, m3, m4⟩ => ⟨_, 1, by decide, c_M_carriesOut_1 l G E (3 * i9) (by omega) m2 _ _ (m3 (by decide +kernel)) rfl _ _ (by exact c_M_removes_1 l G E _ n (by rw [m1]; exact hn2) h8 hx)⟩⟩
    have hr := c_F_refusalOf_1 l G D (nI a) (nI b) n hn h8
    rw [h0] at hr
    exact hr
  · obtain rfl := o_nix ha hi h8 he
    have hp2 : 99 < z 4 + z (46 + a) := by
      rw [← (e5 a hi).2.2.2.2.2.1, ← e7.2.2.1]
      exact k2_lt hp
    refine Or.inr ⟨⟨3, by decide, by decide, fun G => ?_⟩, fun G E ⟨m1, m2, m3, m4⟩ => ⟨_, 2, by decide, c_M_carriesOut_1 l G E (3 * i9) (by omega) m2 _ _ (m3 (by decide +kernel)) rfl _ _ (by exact c_M_removes_2 l G E a n (by rw [m1]; exact hn2) h8 hi (by rw [m1]; exact hp2))⟩⟩
    have hr := c_F_refusalOf_1 l G D (nI a) (nI b) n hn h8
    rw [h0] at hr
    exact hr
theorem k_2 {l : Launch} {B : Nat} {D : xd} {z : Nat → Int32} {n w : Nat} (t : r_T B D 1 z n w) (hB : B + 12 < 100000) {a b i9 : Nat} (ha : a < 1000) (hb : b < 1000) (hi9 : i9 < 59) : y_cmd l B D z 2 a b i9 := by
  obtain ⟨⟨hn, hn2, hw, hw2, e5, e6, e7⟩, ⟨h8, h6, v3, v4, v5⟩, -, -⟩ := id t
  rcases o_rdel (nI a) hn h8 with ⟨h0, hx, h1⟩ | ⟨h0, hx⟩ | ⟨h0, hx, rfl⟩
  · obtain ⟨a1, a2⟩ := o_nrg (lo := 1) (hi9 := 200) ha (by decide) (by decide) hx
    obtain ⟨sh, s1, s2, s3⟩ := r_sh t.2.1
    have s4 : ∀ j, j < n → z (14 + j) = nI (sh j) := fun j hj => (e5 j hj).2.1.symm.trans (s1 j hj)
    refine Or.inl ⟨_, _, ⟨fun G => ?_, fun G => c_F_perform_2 l G D _ n hn h8 a sh s1 s2 (s3 h1) (by omega), fun k hk => by rw [f_pour_out (by omega) (by omega) (by omega)]⟩, y_up ((t_pour (a := 159) t (by omega) s1 s2 (s3 h1) (by omega)).1) (by omega), fun G E ⟨m1, m2, m3, m4⟩ => ⟨_, c_M_carriesOut_2 l G E (3 * i9) (by omega) m2 _ _ (m3 (by decide +kernel)) rfl _ _ (by rw [← m1]; exact c_M_delivers l G E a sh n (by rw [m1]; exact hn2) h8 h1 (fun j hj => by rw [m1]; exact s4 j hj) s2 (s3 h1) (by omega) hx)⟩⟩
    have hr := c_F_refusalOf_2 l G D (nI a) (nI b)
    rw [h0] at hr
    exact hr
  · refine Or.inr ⟨⟨2, by decide, by decide, fun G => ?_⟩, fun G E ⟨m1, m2, m3, m4⟩ => ⟨_, 1, by decide, c_M_carriesOut_2 l G E (3 * i9) (by omega) m2 _ _ (m3 (by decide +kernel)) rfl _ _ (by exact c_M_delivers_1 l G E _ hx)⟩⟩
    have hr := c_F_refusalOf_2 l G D (nI a) (nI b)
    rw [h0] at hr
    exact hr
  · refine Or.inr ⟨⟨3, by decide, by decide, fun G => ?_⟩, fun G E ⟨m1, m2, m3, m4⟩ => ⟨_, 2, by decide, c_M_carriesOut_2 l G E (3 * i9) (by omega) m2 _ _ (m3 (by decide +kernel)) rfl _ _ (by exact c_M_delivers_2 l G E _ hx (by rw [m1]; exact hn2))⟩⟩
    have hr := c_F_refusalOf_2 l G D (nI a) (nI b)
    rw [h0] at hr
    exact hr
theorem k_3 {l : Launch} {B : Nat} {D : xd} {z : Nat → Int32} {n w : Nat} (t : r_T B D 1 z n w) (hB : B + 12 < 100000) {a b i9 : Nat} (ha : a < 1000) (hb : b < 1000) (hi9 : i9 < 59) : y_cmd l B D z 3 a b i9 := by
  obtain ⟨⟨hn, hn2, hw, hw2, e5, e6, e7⟩, ⟨h8, h6, v3, v4, v5⟩, -, -⟩ := id t
  obtain ⟨u, hu, hvu⟩ := v5
  have hvu : D 14 1 = nI u := hvu
  rcases o_rdon (d := D) (nI a) with ⟨h0, hx, hp⟩ | ⟨h0, hx⟩ | ⟨h0, hx, hp⟩
  · have hab : u + a ≤ 99 := by
      rw [hvu, nI_add] at hp
      exact (nI_leI (by omega) (by decide)).mp hp
    refine Or.inl ⟨_, _, ⟨fun G => ?_, fun G => c_F_perform_3 l G D _ _, fun k hk => by unfold f_don; rw [x_p_ne (by omega)]; rw [x_p_ne (by omega)]⟩, y_up (t_don t ⟨u, hab, hvu⟩) (by omega), fun G E ⟨m1, m2, m3, m4⟩ => ⟨_, c_M_carriesOut_3 l G E (3 * i9) (by omega) m2 _ _ (m3 (by decide +kernel)) rfl _ _ (by rw [← m1]; exact c_M_donates l G E _ hx (by rw [m1, ← e7.2.2.1]; exact hp))⟩⟩
    have hr := c_F_refusalOf_3 l G D (nI a) (nI b)
    rw [h0] at hr
    exact hr
  · refine Or.inr ⟨⟨2, by decide, by decide, fun G => ?_⟩, fun G E ⟨m1, m2, m3, m4⟩ => ⟨_, 1, by decide, c_M_carriesOut_3 l G E (3 * i9) (by omega) m2 _ _ (m3 (by decide +kernel)) rfl _ _ (by exact c_M_donates_1 l G E _ hx)⟩⟩
    have hr := c_F_refusalOf_3 l G D (nI a) (nI b)
    rw [h0] at hr
    exact hr
  · refine Or.inr ⟨⟨3, by decide, by decide, fun G => ?_⟩, fun G E ⟨m1, m2, m3, m4⟩ => ⟨_, 2, by decide, c_M_carriesOut_3 l G E (3 * i9) (by omega) m2 _ _ (m3 (by decide +kernel)) rfl _ _ (by exact c_M_donates_2 l G E _ hx (by rw [m1, ← e7.2.2.1]; exact hp))⟩⟩
    have hr := c_F_refusalOf_3 l G D (nI a) (nI b)
    rw [h0] at hr
    exact hr
theorem k_4 {l : Launch} {B : Nat} {D : xd} {z : Nat → Int32} {n w : Nat} (t : r_T B D 1 z n w) (hB : B + 12 < 100000) {a b i9 : Nat} (ha : a < 1000) (hb : b < 1000) (hi9 : i9 < 59) : y_cmd l B D z 4 a b i9 := by
  obtain ⟨⟨hn, hn2, hw, hw2, e5, e6, e7⟩, ⟨h8, h6, v3, v4, v5⟩, -, -⟩ := id t
  obtain ⟨u, hu, hvu⟩ := v5
  have hvu : D 14 1 = nI u := hvu
  have hvu2 : z 4 = nI u := e7.2.2.1.symm.trans hvu
  rcases o_rgive (nI a) (nI b) hn h8 with ⟨h0, i, hi, he, hy, hp1, hp2⟩ | ⟨h0, hx⟩ | ⟨h0, ⟨i, hi, he⟩, hy⟩ | ⟨h0, i, hi, he, hy, hp⟩
  · obtain rfl := o_nix ha hi h8 he
    obtain ⟨b1, b2⟩ := o_nrg (lo := 1) (hi9 := 9) hb (by decide) (by decide) hy
    obtain ⟨-, -, -, -, q, hq, hvq⟩ := v3 a hi
    have hvq : D 8 a = nI q := hvq
    have hvq2 : z (46 + a) = nI q := (e5 a hi).2.2.2.2.2.1.symm.trans hvq
    have h1 : b ≤ u := by
      rw [hvu] at hp1
      rcases Nat.lt_or_ge u b with y | y
      · exact absurd (nI_lt y (by omega)) hp1
      · exact y
    have h2 : q + b ≤ 9 := by
      rw [hvq, nI_add] at hp2
      rcases Nat.lt_or_ge 9 (q + b) with y | y
      · exact absurd (nI_lt y (by omega)) hp2
      · exact y
    have g1 : z (46 + a) + 1 * nI b = nI (q + b) := by rw [hvq2, Int32.one_mul, nI_add]
    have g2 : z 4 - 1 * nI b = nI (u - b) := by rw [hvu2, Int32.one_mul, pk_sub h1]
    have g3 : upd (upd z (46 + a) (z (46 + a) + nI b)) 4 (z 4 - nI b) = upd (upd z (46 + a) (z (46 + a) + 1 * nI b)) 4 (z 4 - 1 * nI b) := by rw [Int32.one_mul]
    refine Or.inl ⟨_, _, ⟨fun G => ?_, fun G => c_F_perform_4 l G D _ a n hn h8 hi, fun k hk => by unfold f_mvw; rw [x_p_ne (by omega)]; rw [x_p_ne (by omega)]⟩, y_up (t_mvw t hi ⟨q + b, h2, by show D 8 a + _ = _; rw [hvq, nI_add]⟩ ⟨u - b, by omega, by show D 14 1 - _ = _; rw [hvu, pk_sub h1]⟩) (by omega), fun G E ⟨m1, m2, m3, m4⟩ => ⟨_, c_M_carriesOut_4 l G E (3 * i9) (by omega) m2 _ _ (m3 (by decide +kernel)) (m4 (by decide +kernel)) _ _ (by rw [g3, ← m1]; exact c_M_movesWick l G E _ 1 a n (by rw [m1]; exact hn2) h8 hi hy (by rw [m1, g1]; exact ⟨nI_pos' (by omega), (nI_leI (b := 9) (by omega) (by decide)).mpr h2⟩) (by rw [m1, g2]; exact ⟨nI_pos' (by omega), (nI_leI (b := 99) (by omega) (by decide)).mpr (by omega)⟩))⟩⟩
    have hr := c_F_refusalOf_4 l G D (nI a) (nI b) n hn h8
    rw [h0] at hr
    exact hr
  · refine Or.inr ⟨⟨1, by decide, by decide, fun G => ?_⟩, fun G E ⟨m1, m2, m3, m4⟩ => ⟨_, 1, by decide, c_M_carriesOut_4 l G E (3 * i9) (by omega) m2 _ _ (m3 (by decide +kernel)) (m4 (by decide +kernel)) _ _ (by exact c_M_movesWick_1 l G E _ 1 _ n (by rw [m1]; exact hn2) h8 hx)⟩⟩
    have hr := c_F_refusalOf_4 l G D (nI a) (nI b) n hn h8
    rw [h0] at hr
    exact hr
  · obtain rfl := o_nix ha hi h8 he
    refine Or.inr ⟨⟨2, by decide, by decide, fun G => ?_⟩, fun G E ⟨m1, m2, m3, m4⟩ => ⟨_, 2, by decide, c_M_carriesOut_4 l G E (3 * i9) (by omega) m2 _ _ (m3 (by decide +kernel)) (m4 (by decide +kernel)) _ _ (by exact c_M_movesWick_2 l G E _ 1 a n (by rw [m1]; exact hn2) h8 hi hy)⟩⟩
    have hr := c_F_refusalOf_4 l G D (nI a) (nI b) n hn h8
    rw [h0] at hr
    exact hr
  · obtain rfl := o_nix ha hi h8 he
    obtain ⟨b1, b2⟩ := o_nrg (lo := 1) (hi9 := 9) hb (by decide) (by decide) hy
    obtain ⟨-, -, -, -, q, hq, hvq⟩ := v3 a hi
    have hvq : D 8 a = nI q := hvq
    have hvq2 : z (46 + a) = nI q := (e5 a hi).2.2.2.2.2.1.symm.trans hvq
    have hno : ¬ ((0 ≤ z (46 + a) + 1 * nI b ∧ z (46 + a) + 1 * nI b ≤ 9) ∧ (0 ≤ z 4 - 1 * nI b ∧ z 4 - 1 * nI b ≤ 99)) := by
      rw [hvq2, hvu2, Int32.one_mul, nI_add]
      intro y
      rcases hp with hp | hp
      · rw [hvu] at hp
        have hlt : u < b := (nI_ltI (by omega) (by omega)).mp hp
        exact absurd y.2.1 (k2_nle (pk_sneg (by omega) hlt))
      · rw [hvq, nI_add] at hp
        exact absurd y.1.2 (k2_nle hp)
    refine Or.inr ⟨⟨3, by decide, by decide, fun G => ?_⟩, fun G E ⟨m1, m2, m3, m4⟩ => ⟨_, 3, by decide, c_M_carriesOut_4 l G E (3 * i9) (by omega) m2 _ _ (m3 (by decide +kernel)) (m4 (by decide +kernel)) _ _ (by exact c_M_movesWick_3 l G E _ 1 a n (by rw [m1]; exact hn2) h8 hi hy (by rw [m1]; exact hno))⟩⟩
    have hr := c_F_refusalOf_4 l G D (nI a) (nI b) n hn h8
    rw [h0] at hr
    exact hr
theorem k_5 {l : Launch} {B : Nat} {D : xd} {z : Nat → Int32} {n w : Nat} (t : r_T B D 1 z n w) (hB : B + 12 < 100000) {a b i9 : Nat} (ha : a < 1000) (hb : b < 1000) (hi9 : i9 < 59) : y_cmd l B D z 5 a b i9 := by
  obtain ⟨⟨hn, hn2, hw, hw2, e5, e6, e7⟩, ⟨h8, h6, v3, v4, v5⟩, -, -⟩ := id t
  rcases o_rl (nI a) (nI b) 5 hn h8 with ⟨h0, ⟨i, hi, he⟩, hy⟩ | ⟨h0, hx⟩ | ⟨h0, ⟨i, hi, he⟩, hy⟩
  · obtain rfl := o_nix ha hi h8 he
    obtain ⟨b1, b2⟩ := o_nrg (lo := 1) (hi9 := 5) hb (by decide) (by decide) hy
    refine Or.inl ⟨_, _, ⟨fun G => ?_, fun G => c_F_perform_5 l G D _ a n hn h8 hi, fun k hk => by rw [x_p_ne (by omega)]⟩, y_up (t_set4 t hi ⟨b, b1, b2, rfl⟩) (by omega), fun G E ⟨m1, m2, m3, m4⟩ => ⟨_, c_M_carriesOut_5 l G E (3 * i9) (by omega) m2 _ _ (m3 (by decide +kernel)) (m4 (by decide +kernel)) _ _ (by rw [← m1]; exact c_M_sets l G E 22 (by omega) _ 5 a n (by rw [m1]; exact hn2) h8 hi hy)⟩⟩
    have hr := c_F_refusalOf_5 l G D (nI a) (nI b)
    rw [h0] at hr
    exact hr
  · refine Or.inr ⟨⟨1, by decide, by decide, fun G => ?_⟩, fun G E ⟨m1, m2, m3, m4⟩ => ⟨_, 1, by decide, c_M_carriesOut_5 l G E (3 * i9) (by omega) m2 _ _ (m3 (by decide +kernel)) (m4 (by decide +kernel)) _ _ (by exact c_M_sets_1 l G E 22 _ 5 _ n (by rw [m1]; exact hn2) h8 hx)⟩⟩
    have hr := c_F_refusalOf_5 l G D (nI a) (nI b)
    rw [h0] at hr
    exact hr
  · obtain rfl := o_nix ha hi h8 he
    refine Or.inr ⟨⟨2, by decide, by decide, fun G => ?_⟩, fun G E ⟨m1, m2, m3, m4⟩ => ⟨_, 2, by decide, c_M_carriesOut_5 l G E (3 * i9) (by omega) m2 _ _ (m3 (by decide +kernel)) (m4 (by decide +kernel)) _ _ (by exact c_M_sets_2 l G E 22 _ 5 a n (by rw [m1]; exact hn2) h8 hi hy)⟩⟩
    have hr := c_F_refusalOf_5 l G D (nI a) (nI b)
    rw [h0] at hr
    exact hr
theorem k_6 {l : Launch} {B : Nat} {D : xd} {z : Nat → Int32} {n w : Nat} (t : r_T B D 1 z n w) (hB : B + 12 < 100000) {a b i9 : Nat} (ha : a < 1000) (hb : b < 1000) (hi9 : i9 < 59) : y_cmd l B D z 6 a b i9 := by
  obtain ⟨⟨hn, hn2, hw, hw2, e5, e6, e7⟩, ⟨h8, h6, v3, v4, v5⟩, -, -⟩ := id t
  have hsw : f_rsw D (nI a) = if 0 ≤ nI a ∧ nI a < nI n then 0 else 1 := by
    unfold f_rsw
    rw [hn]
    by_cases hx : 0 ≤ nI a ∧ nI a < nI n
    · rw [if_neg (by rw [o_bi0]; exact fun y => y hx), if_pos hx]
    · rw [if_pos (by rw [o_bi0]; exact hx), if_neg hx]
  by_cases hx : 0 ≤ nI a ∧ nI a < nI n
  · have h0 : f_rsw D (nI a) = 0 := by rw [hsw, if_pos hx]
    obtain ⟨i, hi, he⟩ := o_ix (by omega) hx
    obtain rfl := o_nix ha hi h8 he
    refine Or.inl ⟨_, _, ⟨fun G => ?_, fun G => c_F_perform_6 l G D _ a n hn h8 hi, fun k hk => by rw [x_p_ne (by omega)]⟩, y_up (t_on t hi) (by omega), fun G E ⟨m1, m2, m3, m4⟩ => ⟨_, c_M_carriesOut_6 l G E (3 * i9) (by omega) m2 _ _ (m3 (by decide +kernel)) rfl _ _ (by rw [← m1]; exact c_M_switches l G E 0 a n (by rw [m1]; exact hn2) h8 hi)⟩⟩
    have hr := c_F_refusalOf_6 l G D (nI a) (nI b)
    rw [h0] at hr
    exact hr
  · have h0 : f_rsw D (nI a) = 1 := by rw [hsw, if_neg hx]
    refine Or.inr ⟨⟨1, by decide, by decide, fun G => ?_⟩, fun G E ⟨m1, m2, m3, m4⟩ => ⟨_, 1, by decide, c_M_carriesOut_6 l G E (3 * i9) (by omega) m2 _ _ (m3 (by decide +kernel)) rfl _ _ (by exact c_M_switches_1 l G E 0 _ n (by rw [m1]; exact hn2) h8 hx)⟩⟩
    have hr := c_F_refusalOf_6 l G D (nI a) (nI b)
    rw [h0] at hr
    exact hr
theorem k_7 {l : Launch} {B : Nat} {D : xd} {z : Nat → Int32} {n w : Nat} (t : r_T B D 1 z n w) (hB : B + 12 < 100000) {a b i9 : Nat} (ha : a < 1000) (hb : b < 1000) (hi9 : i9 < 59) : y_cmd l B D z 7 a b i9 := by
  obtain ⟨⟨hn, hn2, hw, hw2, e5, e6, e7⟩, ⟨h8, h6, v3, v4, v5⟩, -, -⟩ := id t
  have hsw : f_rsw D (nI a) = if 0 ≤ nI a ∧ nI a < nI n then 0 else 1 := by
    unfold f_rsw
    rw [hn]
    by_cases hx : 0 ≤ nI a ∧ nI a < nI n
    · rw [if_neg (by rw [o_bi0]; exact fun y => y hx), if_pos hx]
    · rw [if_pos (by rw [o_bi0]; exact hx), if_neg hx]
  by_cases hx : 0 ≤ nI a ∧ nI a < nI n
  · have h0 : f_rsw D (nI a) = 0 := by rw [hsw, if_pos hx]
    obtain ⟨i, hi, he⟩ := o_ix (by omega) hx
    obtain rfl := o_nix ha hi h8 he
    refine Or.inl ⟨_, _, ⟨fun G => ?_, fun G => c_F_perform_7 l G D _ a n hn h8 hi, fun k hk => by rw [x_p_ne (by omega)]⟩, y_up (t_off t hi) (by omega), fun G E ⟨m1, m2, m3, m4⟩ => ⟨_, c_M_carriesOut_7 l G E (3 * i9) (by omega) m2 _ _ (m3 (by decide +kernel)) rfl _ _ (by rw [← m1]; exact c_M_switches l G E 1 a n (by rw [m1]; exact hn2) h8 hi)⟩⟩
    have hr := c_F_refusalOf_7 l G D (nI a) (nI b)
    rw [h0] at hr
    exact hr
  · have h0 : f_rsw D (nI a) = 1 := by rw [hsw, if_neg hx]
    refine Or.inr ⟨⟨1, by decide, by decide, fun G => ?_⟩, fun G E ⟨m1, m2, m3, m4⟩ => ⟨_, 1, by decide, c_M_carriesOut_7 l G E (3 * i9) (by omega) m2 _ _ (m3 (by decide +kernel)) rfl _ _ (by exact c_M_switches_1 l G E 1 _ n (by rw [m1]; exact hn2) h8 hx)⟩⟩
    have hr := c_F_refusalOf_7 l G D (nI a) (nI b)
    rw [h0] at hr
    exact hr
theorem k_8 {l : Launch} {B : Nat} {D : xd} {z : Nat → Int32} {n w : Nat} (t : r_T B D 1 z n w) (hB : B + 12 < 100000) {a b i9 : Nat} (ha : a < 1000) (hb : b < 1000) (hi9 : i9 < 59) : y_cmd l B D z 8 a b i9 := by
  obtain ⟨⟨hn, hn2, hw, hw2, e5, e6, e7⟩, ⟨h8, h6, v3, v4, v5⟩, -, -⟩ := id t
  rcases o_ram (nI a) hn h8 hw h6 with ⟨h0, ⟨i, hi, he⟩, hw6⟩ | ⟨h0, hx⟩ | ⟨h0, ⟨i, hi, he⟩, rfl⟩
  · obtain rfl := o_nix ha hi h8 he
    refine Or.inl ⟨_, _, ⟨fun G => ?_, fun G => c_F_perform_8 l G D _ _ w hw hw6, fun k hk => by unfold f_appm; rw [x_p_ne (by omega)]; rw [x_p_ne (by omega)]; rw [x_p_ne (by omega)]; rw [x_p_ne (by omega)]⟩, y_up (t_adm t hi hw6) (by omega), fun G E ⟨m1, m2, m3, m4⟩ => ⟨_, c_M_carriesOut_8 l G E (3 * i9) (by omega) m2 _ _ (m3 (by decide +kernel)) rfl _ _ (by rw [← m1]; exact c_M_addsMoth l G E a n (by rw [m1]; exact hn2) h8 hi w (by rw [m1]; exact hw2) hw6)⟩⟩
    have hr := c_F_refusalOf_8 l G D (nI a) (nI b)
    rw [h0] at hr
    exact hr
  · refine Or.inr ⟨⟨1, by decide, by decide, fun G => ?_⟩, fun G E ⟨m1, m2, m3, m4⟩ => ⟨_, 1, by decide, c_M_carriesOut_8 l G E (3 * i9) (by omega) m2 _ _ (m3 (by decide +kernel)) rfl _ _ (by exact c_M_addsMoth_1 l G E _ n (by rw [m1]; exact hn2) h8 hx)⟩⟩
    have hr := c_F_refusalOf_8 l G D (nI a) (nI b)
    rw [h0] at hr
    exact hr
  · obtain rfl := o_nix ha hi h8 he
    refine Or.inr ⟨⟨3, by decide, by decide, fun G => ?_⟩, fun G E ⟨m1, m2, m3, m4⟩ => ⟨_, 2, by decide, c_M_carriesOut_8 l G E (3 * i9) (by omega) m2 _ _ (m3 (by decide +kernel)) rfl _ _ (by exact c_M_addsMoth_2 l G E a n (by rw [m1]; exact hn2) h8 hi (by rw [m1]; exact hw2))⟩⟩
    have hr := c_F_refusalOf_8 l G D (nI a) (nI b)
    rw [h0] at hr
    exact hr
theorem k_9 {l : Launch} {B : Nat} {D : xd} {z : Nat → Int32} {n w : Nat} (t : r_T B D 1 z n w) (hB : B + 12 < 100000) {a b i9 : Nat} (ha : a < 1000) (hb : b < 1000) (hi9 : i9 < 59) : y_cmd l B D z 9 a b i9 := by
  obtain ⟨⟨hn, hn2, hw, hw2, e5, e6, e7⟩, ⟨h8, h6, v3, v4, v5⟩, -, -⟩ := id t
  have hwc := o_wc (x := nI a) t
  rcases o_rpro (nI a) hn h8 with ⟨h0, hx, h1⟩ | ⟨h0, hx⟩ | ⟨h0, hx, rfl⟩
  · obtain ⟨a1, a2⟩ := o_nrg (lo := 1) (hi9 := 5) ha (by decide) (by decide) hx
    by_cases hy : g_car z n (nI a) = true
    · refine Or.inl ⟨_, _, ⟨fun G => ?_, fun G => c_F_perform_9y l G D _ _ n hn h8 (hwc.trans hy), fun k hk => by rw [x_r_ne2 (by omega)]⟩, y_up (t_cap t ⟨a1, a2⟩) (by omega), fun G E ⟨m1, m2, m3, m4⟩ => ⟨_, c_M_carriesOut_9 l G E (3 * i9) (by omega) m2 _ _ (m3 (by decide +kernel)) rfl _ _ (by rw [← m1]; exact c_M_proposes l G E _ hx n (by rw [m1]; exact hn2) h8 h1 (by rw [m1]; exact hy))⟩⟩
      have hr := c_F_refusalOf_9 l G D (nI a) (nI b)
      rw [h0] at hr
      exact hr
    · refine Or.inl ⟨D, z, ⟨fun G => ?_, fun G => c_F_perform_9n l G D _ _ n hn h8 (by rw [hwc]; exact hy), fun k hk => by rfl⟩, y_up (t) (by omega), fun G E ⟨m1, m2, m3, m4⟩ => ⟨_, c_M_carriesOut_9 l G E (3 * i9) (by omega) m2 _ _ (m3 (by decide +kernel)) rfl _ _ (by rw [g_ok_self m1]; exact c_M_proposes_n l G E _ hx n (by rw [m1]; exact hn2) h8 h1 (by rw [m1]; exact hy))⟩⟩
      have hr := c_F_refusalOf_9 l G D (nI a) (nI b)
      rw [h0] at hr
      exact hr
  · refine Or.inr ⟨⟨2, by decide, by decide, fun G => ?_⟩, fun G E ⟨m1, m2, m3, m4⟩ => ⟨_, 1, by decide, c_M_carriesOut_9 l G E (3 * i9) (by omega) m2 _ _ (m3 (by decide +kernel)) rfl _ _ (by exact c_M_proposes_1 l G E _ hx)⟩⟩
    have hr := c_F_refusalOf_9 l G D (nI a) (nI b)
    rw [h0] at hr
    exact hr
  · refine Or.inr ⟨⟨3, by decide, by decide, fun G => ?_⟩, fun G E ⟨m1, m2, m3, m4⟩ => ⟨_, 2, by decide, c_M_carriesOut_9 l G E (3 * i9) (by omega) m2 _ _ (m3 (by decide +kernel)) rfl _ _ (by exact c_M_proposes_2 l G E _ hx (by rw [m1]; exact hn2))⟩⟩
    have hr := c_F_refusalOf_9 l G D (nI a) (nI b)
    rw [h0] at hr
    exact hr
theorem k_10 {l : Launch} {B : Nat} {D : xd} {z : Nat → Int32} {n w : Nat} (t : r_T B D 1 z n w) (hB : B + 12 < 100000) {a b i9 : Nat} (ha : a < 1000) (hb : b < 1000) (hi9 : i9 < 59) : y_cmd l B D z 10 a b i9 := by
  obtain ⟨⟨hn, hn2, hw, hw2, e5, e6, e7⟩, ⟨h8, h6, v3, v4, v5⟩, -, -⟩ := id t
  obtain ⟨⟨w2, tn⟩, -⟩ := t_night t (by omega) (by omega)
  have hcr : ∀ k, k < w → z (62 + k) - 1 = -1 ∨ ∃ j, j < n ∧ z (62 + k) - 1 = nI j := fun k hk => by
    rw [← (e6 k hk).1]
    exact (v4 k hk).1
  refine Or.inl ⟨f_night D 1 n w, g_ngt z n w, ⟨fun G => c_F_refusalOf_10 l G D (nI a) (nI b), fun G => c_F_perform_10 l G D _ _ n hn h8 w hw h6, fun k hk => by
    unfold f_night f_n3
    rw [x_p_ne (by omega), f_ps_out (by omega), f_dis_out (by omega), f_ma_out (by omega) (by omega) (by omega) (by omega), f_brn_out (by omega) (by omega) (by omega) (by omega)]⟩, y_up tn (by omega), fun G E ⟨m1, m2, m3, m4⟩ => ⟨_, c_M_carriesOut_10 l G E (3 * i9) (by omega) m2 _ _ rfl rfl _ _ (by rw [← m1]; exact c_M_passesNight l G E n (by rw [m1]; exact hn2) h8 w (by rw [m1]; exact hw2) h6 (fun k hk => by rw [m1]; exact hcr k hk))⟩⟩
theorem k_11 {l : Launch} {B : Nat} {D : xd} {z : Nat → Int32} {n w : Nat} (t : r_T B D 1 z n w) (hB : B + 12 < 100000) {a b i9 : Nat} (ha : a < 1000) (hb : b < 1000) (hi9 : i9 < 59) : y_cmd l B D z 11 a b i9 := by
  obtain ⟨⟨hn, hn2, hw, hw2, e5, e6, e7⟩, ⟨h8, h6, v3, v4, v5⟩, -, -⟩ := id t
  obtain ⟨b9, t9, m1, m2, m3⟩ := t.2.2.1
  have m2 : D 14 2 = nI t9 := m2
  have f3 : D 14 2 = z 5 := e7.2.2.2
  rcases o_rpay hn h8 with ⟨h0, h1, hx⟩ | ⟨h0, hx⟩
  · obtain ⟨sh, s1, s2, s3⟩ := r_sh t.2.1
    have s4 : ∀ j, j < n → z (14 + j) = nI (sh j) := fun j hj => (e5 j hj).2.1.symm.trans (s1 j hj)
    have ht1 : 1 ≤ t9 := by
      rcases Nat.eq_zero_or_pos t9 with y | y
      · subst y
        exact absurd m2 hx
      · exact y
    have hz5 : z 5 = nI t9 := f3.symm.trans m2
    refine Or.inl ⟨_, _, ⟨fun G => ?_, fun G => c_F_perform_11 l G D _ _ n hn h8 t9 sh s1 s2 (s3 h1) (by omega) m2, fun k hk => by rw [f_shr_out (by omega) (by omega) (by omega)]⟩, y_up (t_pay (a := 159) t (by omega) s1 s2 (s3 h1) (by omega) m2 (by omega)) (by omega), fun G E ⟨m1, m2, m3, m4⟩ => ⟨_, c_M_carriesOut_11 l G E (3 * i9) (by omega) m2 _ _ rfl rfl _ _ (by rw [← m1]; exact c_M_pays l G E t9 sh n (by rw [m1]; exact hn2) h8 h1 (fun j hj => by rw [m1]; exact s4 j hj) s2 (s3 h1) (by omega) (by rw [m1]; exact hz5) ht1)⟩⟩
    have hr := c_F_refusalOf_11 l G D (nI a) (nI b)
    rw [h0] at hr
    exact hr
  · refine Or.inr ⟨⟨3, by decide, by decide, fun G => ?_⟩, fun G E ⟨m1, m2, m3, m4⟩ => ⟨_, 1, by decide, c_M_carriesOut_11 l G E (3 * i9) (by omega) m2 _ _ rfl rfl _ _ (by exact c_M_pays_1 l G E (by rw [m1]; exact hx.elim (fun y => Or.inl (by rw [hn2, y]; rfl)) (fun y => Or.inr (f3.symm.trans y))))⟩⟩
    have hr := c_F_refusalOf_11 l G D (nI a) (nI b)
    rw [h0] at hr
    exact hr
theorem k_12 {l : Launch} {B : Nat} {D : xd} {z : Nat → Int32} {n w : Nat} (t : r_T B D 1 z n w) (hB : B + 12 < 100000) {a b i9 : Nat} (ha : a < 1000) (hb : b < 1000) (hi9 : i9 < 59) : y_cmd l B D z 12 a b i9 := by
  obtain ⟨⟨hn, hn2, hw, hw2, e5, e6, e7⟩, ⟨h8, h6, v3, v4, v5⟩, -, -⟩ := id t
  rcases o_rbuy (nI a) (nI b) hn h8 with ⟨h0, i, hi, he, hy, hp1, hp2, hp3⟩ | ⟨h0, hx⟩ | ⟨h0, ⟨i, hi, he⟩, hy⟩ | ⟨h0, i, hi, he, hy, hp⟩
  · obtain rfl := o_nix ha hi h8 he
    obtain ⟨b1, b2⟩ := o_nrg (lo := 1) (hi9 := 60) hb (by decide) (by decide) hy
    obtain ⟨-, -, -, ⟨q, hq, hvq⟩, -⟩ := v3 a hi
    have hvq : D 7 a = nI q := hvq
    have f1 : D 7 a = z (38 + a) := (e5 a hi).2.2.2.2.1
    have f2 : D 9 a = z (54 + a) := (e5 a hi).2.2.2.2.2.2
    have f3 : D 14 0 = z 3 := e7.2.1
    have h1 : q + b ≤ 60 := by
      rw [hvq, show (60 : Int32) = nI 60 from rfl, pk_sub hq] at hp2
      rcases Nat.lt_or_ge (60 - q) b with y | y
      · exact absurd (nI_lt y (by omega)) hp2
      · omega
    refine Or.inl ⟨_, _, ⟨fun G => ?_, fun G => c_F_perform_12 l G D _ a n hn h8 hi, fun k hk => by unfold f_sell; rw [x_p_ne (by omega)]; rw [x_p_ne (by omega)]; rw [x_p_ne (by omega)]; rw [x_p_ne (by omega)]⟩, y_up (t_sell t hi ⟨q, h1, hvq⟩ hp3 (by omega) b2) (by omega), fun G E ⟨m1, m2, m3, m4⟩ => ⟨_, c_M_carriesOut_12 l G E (3 * i9) (by omega) m2 _ _ (m3 (by decide +kernel)) (m4 (by decide +kernel)) _ _ (by rw [← m1]; exact c_M_buys l G E _ a n (by rw [m1]; exact hn2) h8 hi hy (by rw [m1, ← f1, ← f2, ← f3]; exact ⟨hp1, by rw [hvq, nI_add]; exact (nI_leI (b := 60) (by omega) (by decide)).mpr h1, hp3⟩))⟩⟩
    have hr := c_F_refusalOf_12 l G D (nI a) (nI b) n hn h8
    rw [h0] at hr
    exact hr
  · refine Or.inr ⟨⟨1, by decide, by decide, fun G => ?_⟩, fun G E ⟨m1, m2, m3, m4⟩ => ⟨_, 1, by decide, c_M_carriesOut_12 l G E (3 * i9) (by omega) m2 _ _ (m3 (by decide +kernel)) (m4 (by decide +kernel)) _ _ (by exact c_M_buys_1 l G E _ _ n (by rw [m1]; exact hn2) h8 hx)⟩⟩
    have hr := c_F_refusalOf_12 l G D (nI a) (nI b) n hn h8
    rw [h0] at hr
    exact hr
  · obtain rfl := o_nix ha hi h8 he
    refine Or.inr ⟨⟨2, by decide, by decide, fun G => ?_⟩, fun G E ⟨m1, m2, m3, m4⟩ => ⟨_, 2, by decide, c_M_carriesOut_12 l G E (3 * i9) (by omega) m2 _ _ (m3 (by decide +kernel)) (m4 (by decide +kernel)) _ _ (by exact c_M_buys_2 l G E _ a n (by rw [m1]; exact hn2) h8 hi hy)⟩⟩
    have hr := c_F_refusalOf_12 l G D (nI a) (nI b) n hn h8
    rw [h0] at hr
    exact hr
  · obtain rfl := o_nix ha hi h8 he
    obtain ⟨b1, b2⟩ := o_nrg (lo := 1) (hi9 := 60) hb (by decide) (by decide) hy
    obtain ⟨-, -, -, ⟨q, hq, hvq⟩, -⟩ := v3 a hi
    have hvq : D 7 a = nI q := hvq
    have f1 : D 7 a = z (38 + a) := (e5 a hi).2.2.2.2.1
    have f2 : D 9 a = z (54 + a) := (e5 a hi).2.2.2.2.2.2
    have f3 : D 14 0 = z 3 := e7.2.1
    have hno : ¬ (¬ z 3 < nI b ∧ z (38 + a) + nI b ≤ 60 ∧ ¬ z (54 + a) < nI b) := by
      rw [← f1, ← f2, ← f3]
      intro y
      rcases hp with hp | hp | hp
      · exact y.1 hp
      · rw [hvq, show (60 : Int32) = nI 60 from rfl, pk_sub hq] at hp
        have hlt := (nI_ltI (by omega) (by omega)).mp hp
        have y2 := y.2.1
        rw [hvq, nI_add] at y2
        have := (nI_leI (b := 60) (by omega) (by decide)).mp y2
        omega
      · exact y.2.2 hp
    refine Or.inr ⟨⟨3, by decide, by decide, fun G => ?_⟩, fun G E ⟨m1, m2, m3, m4⟩ => ⟨_, 3, by decide, c_M_carriesOut_12 l G E (3 * i9) (by omega) m2 _ _ (m3 (by decide +kernel)) (m4 (by decide +kernel)) _ _ (by exact c_M_buys_3 l G E _ a n (by rw [m1]; exact hn2) h8 hi hy (by rw [m1]; exact hno))⟩⟩
    have hr := c_F_refusalOf_12 l G D (nI a) (nI b) n hn h8
    rw [h0] at hr
    exact hr
theorem k_all {l : Launch} {B : Nat} {D : xd} {z : Nat → Int32} {v a b i9 : Nat} (t : r_S B D 1 z) (hB : B + 12 < 100000) (hv : v < 13) (ha : a < 1000) (hb : b < 1000) (hi9 : i9 < 59) : y_cmd l B D z v a b i9 := by
  obtain ⟨n, w, t⟩ := t
  have hc : v = 0 ∨ v = 1 ∨ v = 2 ∨ v = 3 ∨ v = 4 ∨ v = 5 ∨ v = 6 ∨ v = 7 ∨ v = 8 ∨ v = 9 ∨ v = 10 ∨ v = 11 ∨ v = 12 := by omega
  rcases hc with rfl | rfl | rfl | rfl | rfl | rfl | rfl | rfl | rfl | rfl | rfl | rfl | rfl
  · exact k_0 t hB ha hb hi9
  · exact k_1 t hB ha hb hi9
  · exact k_2 t hB ha hb hi9
  · exact k_3 t hB ha hb hi9
  · exact k_4 t hB ha hb hi9
  · exact k_5 t hB ha hb hi9
  · exact k_6 t hB ha hb hi9
  · exact k_7 t hB ha hb hi9
  · exact k_8 t hB ha hb hi9
  · exact k_9 t hB ha hb hi9
  · exact k_10 t hB ha hb hi9
  · exact k_11 t hB ha hb hi9
  · exact k_12 t hB ha hb hi9
