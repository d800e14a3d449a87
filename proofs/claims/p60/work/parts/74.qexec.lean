/-! a command of a text, out of any world that holds the state z -/
def q_cmd (l : Launch) (v a b : Nat) (z : Nat → Int32) (o : q_O) : Prop := ∀ (B : Nat) (D : xd), B + 12 < 100000 → r_S B D 1 z → (o.1 = none ∧ ∃ D2, y_cok l D D2 v a b ∧ r_S (B + 12) D2 1 o.2.2) ∨ (¬ o.1 = none ∧ y_cbad l D v a b)
section QCMD
variable {l : Launch} {z : Nat → Int32} {a b : Nat}
theorem q_k0 (ha : a < 1000) (hb : b < 1000) : q_cmd l 0 a b z (o_addLamp z (nI a) (nI b)) := by
  intro B D hB ⟨n, w, t⟩
  obtain ⟨⟨hn, hn2, hw, hw2, e5, e6, e7⟩, ⟨h8, h6, v3, v4, v5⟩, -, -⟩ := id t
  obtain ⟨qn, qw⟩ := q_nw t
  unfold o_addLamp
  rcases o_ra (nI a) (nI b) hn h8 with ⟨h0, hx, hy, hn8⟩ | ⟨h0, hx⟩ | ⟨h0, hx, hy, e⟩
  · obtain ⟨a1, a2⟩ := o_nrg (lo := 0) (hi9 := 3) ha (by decide) (by decide) hx
    obtain ⟨b1, b2⟩ := o_nrg (lo := 1) (hi9 := 9) hb (by decide) (by decide) hy
    rw [if_neg (fun y => y.elim (fun y => y hx) (fun y => y hy)), qn, if_pos hn8]
    refine Or.inl ⟨rfl, _, ⟨fun G => ?_, fun G => c_F_perform_0 l G D _ _ n hn hn8, fun k hk => by unfold f_app; repeat (first | rw [x_p_ne (by omega)] | rw [x_r_ne2 (by omega)])⟩, y_up (t_add t hn8 ⟨a, by omega, rfl⟩ ⟨b, b1, b2, rfl⟩) (by omega)⟩
    have hr := c_F_refusalOf_0 l G D (nI a) (nI b)
    rw [h0] at hr
    exact hr
  · rw [if_pos hx]
    refine Or.inr ⟨(fun y => by cases y), 2, by decide, by decide, fun G => ?_⟩
    have hr := c_F_refusalOf_0 l G D (nI a) (nI b)
    rw [h0] at hr
    exact hr
  · rw [if_neg (fun y => y.elim (fun y => y hx) (fun y => y hy)), qn, if_neg (by omega)]
    refine Or.inr ⟨(fun y => by cases y), 3, by decide, by decide, fun G => ?_⟩
    have hr := c_F_refusalOf_0 l G D (nI a) (nI b)
    rw [h0] at hr
    exact hr
theorem q_k2 (ha : a < 1000) (hb : b < 1000) : q_cmd l 2 a b z (o_deliverOil z (nI a)) := by
  intro B D hB ⟨n, w, t⟩
  obtain ⟨⟨hn, hn2, hw, hw2, e5, e6, e7⟩, ⟨h8, h6, v3, v4, v5⟩, -, -⟩ := id t
  obtain ⟨qn, qw⟩ := q_nw t
  unfold o_deliverOil
  rcases o_rdel (nI a) hn h8 with ⟨h0, hx, h1⟩ | ⟨h0, hx⟩ | ⟨h0, hx, e⟩
  · obtain ⟨a1, a2⟩ := o_nrg (lo := 1) (hi9 := 200) ha (by decide) (by decide) hx
    obtain ⟨s1, s2, s3⟩ := q_shf t
    rw [if_neg (fun y => y hx), qn, if_neg (by omega), q_i_n (by omega)]
    unfold q_por
    rw [qn]
    refine Or.inl ⟨rfl, _, ⟨fun G => ?_, fun G => c_F_perform_2 l G D _ n hn h8 a (q_sh z) s1 s2 (s3 h1) (by omega), fun k hk => by rw [f_pour_out (by omega) (by omega) (by omega)]⟩, y_up ((t_pour (a := 159) t (by omega) s1 s2 (s3 h1) (by omega)).1) (by omega)⟩
    have hr := c_F_refusalOf_2 l G D (nI a) (nI b)
    rw [h0] at hr
    exact hr
  · rw [if_pos hx]
    refine Or.inr ⟨(fun y => by cases y), 2, by decide, by decide, fun G => ?_⟩
    have hr := c_F_refusalOf_2 l G D (nI a) (nI b)
    rw [h0] at hr
    exact hr
  · rw [if_neg (fun y => y hx), qn, if_pos e]
    refine Or.inr ⟨(fun y => by cases y), 3, by decide, by decide, fun G => ?_⟩
    have hr := c_F_refusalOf_2 l G D (nI a) (nI b)
    rw [h0] at hr
    exact hr
theorem q_k3 (ha : a < 1000) (hb : b < 1000) : q_cmd l 3 a b z (o_donateWicks z (nI a)) := by
  intro B D hB ⟨n, w, t⟩
  obtain ⟨⟨hn, hn2, hw, hw2, e5, e6, e7⟩, ⟨h8, h6, v3, v4, v5⟩, -, -⟩ := id t
  obtain ⟨qn, qw⟩ := q_nw t
  unfold o_donateWicks
  obtain ⟨u, hu, hvu⟩ := v5
  have hvu : D 14 1 = nI u := hvu
  have f4 : D 14 1 = z 4 := e7.2.2.1
  rcases o_rdon (d := D) (nI a) with ⟨h0, hx, hp⟩ | ⟨h0, hx⟩ | ⟨h0, hx, hp⟩
  · rw [if_neg (fun y => y hx), if_pos (by rw [← f4]; exact hp)]
    have hab : u + a ≤ 99 := by
      rw [hvu, nI_add] at hp
      exact (nI_leI (by omega) (by decide)).mp hp
    refine Or.inl ⟨rfl, _, ⟨fun G => ?_, fun G => c_F_perform_3 l G D _ _, fun k hk => by unfold f_don; rw [x_p_ne (by omega)]; rw [x_p_ne (by omega)]⟩, y_up (t_don t ⟨u, hab, hvu⟩) (by omega)⟩
    have hr := c_F_refusalOf_3 l G D (nI a) (nI b)
    rw [h0] at hr
    exact hr
  · rw [if_pos hx]
    refine Or.inr ⟨(fun y => by cases y), 2, by decide, by decide, fun G => ?_⟩
    have hr := c_F_refusalOf_3 l G D (nI a) (nI b)
    rw [h0] at hr
    exact hr
  · rw [if_neg (fun y => y hx), if_neg (by rw [← f4]; exact hp)]
    refine Or.inr ⟨(fun y => by cases y), 3, by decide, by decide, fun G => ?_⟩
    have hr := c_F_refusalOf_3 l G D (nI a) (nI b)
    rw [h0] at hr
    exact hr
theorem q_k4 (ha : a < 1000) (hb : b < 1000) : q_cmd l 4 a b z (o_giveWick z (nI a) (nI b)) := by
  intro B D hB ⟨n, w, t⟩
  obtain ⟨⟨hn, hn2, hw, hw2, e5, e6, e7⟩, ⟨h8, h6, v3, v4, v5⟩, -, -⟩ := id t
  obtain ⟨qn, qw⟩ := q_nw t
  unfold o_giveWick
  obtain ⟨u, hu, hvu⟩ := v5
  have hvu : D 14 1 = nI u := hvu
  have f4 : D 14 1 = z 4 := e7.2.2.1
  rcases o_rgive (nI a) (nI b) hn h8 with ⟨h0, i, hi, he, hy, hp1, hp2⟩ | ⟨h0, hx⟩ | ⟨h0, ⟨i, hi, he⟩, hy⟩ | ⟨h0, i, hi, he, hy, hp⟩
  · obtain rfl := o_nix ha hi h8 he
    obtain ⟨b1, b2⟩ := o_nrg (lo := 1) (hi9 := 9) hb (by decide) (by decide) hy
    obtain ⟨-, -, -, -, q, hq, hvq⟩ := v3 a hi
    have hvq : D 8 a = nI q := hvq
    have f8 : D 8 a = z (46 + a) := (e5 a hi).2.2.2.2.2.1
    rw [if_neg (fun y => y (by rw [hn2]; exact x_in9 hi (by omega))), if_neg (fun y => y hy), q_i_n (by omega), if_pos (by rw [← f4, ← f8]; exact ⟨hp1, hp2⟩)]
    have h1 : b ≤ u := by
      rw [hvu] at hp1
      rcases Nat.lt_or_ge u b with y | y
      · exact absurd (nI_lt y (by omega)) hp1
      · exact y
    have h2 : q + b ≤ 9 := by
      rw [hvq, nI_add] at hp2
      rcases Nat.lt_or_ge 9 (q + b) with y | y
      · exact absurd (nI_lt y (by omega)) hp2
      · exact y
    refine Or.inl ⟨rfl, _, ⟨fun G => ?_, fun G => c_F_perform_4 l G D _ a n hn h8 hi, fun k hk => by unfold f_mvw; rw [x_p_ne (by omega)]; rw [x_p_ne (by omega)]⟩, y_up (t_mvw t hi ⟨q + b, h2, by show D 8 a + _ = _; rw [hvq, nI_add]⟩ ⟨u - b, by omega, by show D 14 1 - _ = _; rw [hvu, pk_sub h1]⟩) (by omega)⟩
    have hr := c_F_refusalOf_4 l G D (nI a) (nI b) n hn h8
    rw [h0] at hr
    exact hr
  · rw [if_pos (by rw [hn2]; exact hx)]
    refine Or.inr ⟨(fun y => by cases y), 1, by decide, by decide, fun G => ?_⟩
    have hr := c_F_refusalOf_4 l G D (nI a) (nI b) n hn h8
    rw [h0] at hr
    exact hr
  · obtain rfl := o_nix ha hi h8 he
    rw [if_neg (fun y => y (by rw [hn2]; exact x_in9 hi (by omega))), if_pos hy]
    refine Or.inr ⟨(fun y => by cases y), 2, by decide, by decide, fun G => ?_⟩
    have hr := c_F_refusalOf_4 l G D (nI a) (nI b) n hn h8
    rw [h0] at hr
    exact hr
  · obtain rfl := o_nix ha hi h8 he
    have f8 : D 8 a = z (46 + a) := (e5 a hi).2.2.2.2.2.1
    rw [if_neg (fun y => y (by rw [hn2]; exact x_in9 hi (by omega))), if_neg (fun y => y hy), q_i_n (by omega), if_neg (by rw [← f4, ← f8]; exact fun y => hp.elim y.1 y.2)]
    refine Or.inr ⟨(fun y => by cases y), 3, by decide, by decide, fun G => ?_⟩
    have hr := c_F_refusalOf_4 l G D (nI a) (nI b) n hn h8
    rw [h0] at hr
    exact hr
theorem q_k10 : q_cmd l 10 a b z (o_burnNight z) := by
  intro B D hB ⟨n, w, t⟩
  obtain ⟨⟨hn, hn2, hw, hw2, e5, e6, e7⟩, ⟨h8, h6, v3, v4, v5⟩, -, -⟩ := id t
  obtain ⟨qn, qw⟩ := q_nw t
  unfold o_burnNight
  rw [qn, qw]
  obtain ⟨⟨w2, tn⟩, -⟩ := t_night t (by omega) (by omega)
  exact Or.inl ⟨rfl, _, ⟨fun G => c_F_refusalOf_10 l G D (nI a) (nI b), fun G => c_F_perform_10 l G D _ _ n hn h8 w hw h6, fun k hk => by
    unfold f_night f_n3
    rw [x_p_ne (by omega), f_ps_out (by omega), f_dis_out (by omega), f_ma_out (by omega) (by omega) (by omega) (by omega), f_brn_out (by omega) (by omega) (by omega) (by omega)]⟩, y_up tn (by omega)⟩
/-- 'on 9' and 'cap 9' are refused -/
theorem q_k6 : q_cmd l 6 9 b z (some q_eI, 0, z) := by
  intro B D hB ⟨n, w, t⟩
  obtain ⟨⟨hn, hn2, hw, hw2, e5, e6, e7⟩, ⟨h8, h6, v3, v4, v5⟩, -, -⟩ := id t
  refine Or.inr ⟨(fun y => by cases y), 1, by decide, by decide, fun G => ?_⟩
  have hr := c_F_refusalOf_6 l G D (nI 9) (nI b)
  have h0 : f_rsw D (nI 9) = 1 := by
    unfold f_rsw
    rw [if_pos]
    have hn : D 2 0 = nI n := hn
    have h9 : ¬ (0 ≤ nI 9 ∧ nI 9 < D 2 0) := by
      rw [hn]
      intro y
      have h9 := (nI_ltI (by omega) (by omega)).mp y.2
      omega
    unfold x_bi
    rw [if_neg h9]
  rw [h0] at hr
  exact hr
theorem q_k9 : q_cmd l 9 9 b z (some q_eA, 0, z) := by
  intro B D hB ⟨n, w, t⟩
  obtain ⟨⟨hn, hn2, hw, hw2, e5, e6, e7⟩, ⟨h8, h6, v3, v4, v5⟩, -, -⟩ := id t
  refine Or.inr ⟨(fun y => by cases y), 2, by decide, by decide, fun G => ?_⟩
  have hr := c_F_refusalOf_9 l G D (nI 9) (nI b)
  have h0 : f_rpro D 1 (nI 9) = 2 := by
    rcases o_rpro (d := D) (nI 9) hn h8 with ⟨h0, hx, h1⟩ | ⟨h0, hx⟩ | ⟨h0, hx, e⟩
    · exact absurd hx (by decide +kernel)
    · exact h0
    · exact absurd hx (by decide +kernel)
  rw [h0] at hr
  exact hr
end QCMD
/-- the commands ahead of f9, one after another -/
theorem q_run {l : Launch} {B : Nat} {D0 : xd} (vv av bv : Nat → Nat) (zs : Nat → Nat → Int32) (h0 : r_S B D0 1 (zs 0)) (hB : B + 180 < 100000) : ∀ f9, f9 ≤ 15 → (∀ i, i < f9 → ∃ o : q_O, q_cmd l (vv i) (av i) (bv i) (zs i) o ∧ o.1 = none ∧ o.2.2 = zs (i + 1)) →
    ∃ Dw : Nat → xd, Dw 0 = D0 ∧ (∀ i, i ≤ f9 → r_S (B + 12 * i) (Dw i) 1 (zs i) ∧ y_fr D0 (Dw i)) ∧ (∀ i, i < f9 → y_cok l (Dw i) (Dw (i + 1)) (vv i) (av i) (bv i)) := by
  intro f9
  induction f9 with
  | zero =>
    intro _ _
    refine ⟨fun _ => D0, rfl, fun i hi => ?_, fun i hi => absurd hi (Nat.not_lt_zero i)⟩
    obtain rfl : i = 0 := by omega
    exact ⟨h0, fun _ _ => rfl⟩
  | succ f9 ih =>
    intro hf hst
    obtain ⟨Dw, d0, d1, d2⟩ := ih (by omega) (fun i hi => hst i (by omega))
    obtain ⟨o, c1, c2, c3⟩ := hst f9 (by omega)
    obtain ⟨s1, s2⟩ := d1 f9 (Nat.le_refl _)
    rcases c1 (B + 12 * f9) (Dw f9) (by omega) s1 with ⟨-, D2, y1, y2⟩ | ⟨y1, -⟩
    · rw [c3] at y2
      have hn : ∀ i, i ≤ f9 → (if i = f9 + 1 then D2 else Dw i) = Dw i := fun i hi => if_neg (by omega)
      have hn2 : (if f9 + 1 = f9 + 1 then D2 else Dw (f9 + 1)) = D2 := if_pos rfl
      refine ⟨fun i => if i = f9 + 1 then D2 else Dw i, (hn 0 (by omega)).trans d0, fun i hi => ?_, fun i hi => ?_⟩
      · rcases Nat.lt_or_ge i (f9 + 1) with y | y
        · show r_S _ (if i = f9 + 1 then D2 else Dw i) 1 (zs i) ∧ y_fr D0 (if i = f9 + 1 then D2 else Dw i)
          rw [hn i (by omega)]
          exact d1 i (by omega)
        · obtain rfl : i = f9 + 1 := by omega
          show r_S _ (if f9 + 1 = f9 + 1 then D2 else Dw (f9 + 1)) 1 (zs (f9 + 1)) ∧ y_fr D0 (if f9 + 1 = f9 + 1 then D2 else Dw (f9 + 1))
          rw [hn2]
          exact ⟨y2, fun k hk => (y1.2.2 k hk).trans (s2 k hk)⟩
      · show y_cok l (if i = f9 + 1 then D2 else Dw i) (if i + 1 = f9 + 1 then D2 else Dw (i + 1)) (vv i) (av i) (bv i)
        rw [hn i (by omega)]
        rcases Nat.lt_or_ge i f9 with y | y
        · rw [hn (i + 1) (by omega)]
          exact d2 i y
        · obtain rfl : i = f9 := by omega
          rw [hn2]
          exact y1
    · exact absurd c2 y1
def q_ke (d d1 : xd) : Prop := (∀ j, j ≠ 11 → j ≠ 12 → d1 0 j = d 0 j) ∧ ∀ k, 29 ≤ k → k ≤ 42 → d1 k = d k
section QX
variable {l : Launch} {B : Nat} {d : xd} {z : Nat → Int32} {hs : List (Nat → Int32)} {tx : Nat → Nat} {L k9 : Nat}
set_option maxHeartbeats 1000000 in
theorem q_D0 (h : q_R B d z hs) (dp D0 : xd) (hD0 : D0 = f_cps (x_p dp 168 1 0) 15 1) (hout : ∀ k, k ≠ 168 → (k < 170 ∨ 172 < k) → dp k = d k) :
    (∀ k, k < 16 ∨ 28 < k → k ≠ 168 → (k < 170 ∨ 172 < k) → D0 k = d k) ∧ (∀ k, 170 ≤ k → k ≤ 172 → D0 k = dp k) ∧ (∀ j, j ≠ 1 → D0 168 j = dp 168 j) ∧ D0 168 1 = 0 ∧ r_like d 1 D0 15 ∧ r_S B D0 1 z := by
  have D0o : ∀ k, k < 16 ∨ 28 < k → k ≠ 168 → (k < 170 ∨ 172 < k) → D0 k = d k := fun k h1 h2 h4 => by
    rw [hD0, f_cps_out h1, x_p_ne h2, hout k h2 h4]
  refine ⟨D0o, fun k h1 h2 => by rw [hD0, f_cps_out (by omega), x_p_ne (by omega)], fun j h1 => by rw [hD0, f_cps_out (by omega), x_p_row h1], by rw [hD0, f_cps_out (by omega), x_p_at], ?_, ?_⟩
  · rw [hD0]
    exact r_like_trans (r_rows (fun k h1 h2 => by rw [x_p_ne (by omega), hout k (by omega) (by omega)])) (r_copy (d := x_p dp 168 1 0) (o := 15) (o2 := 1) (by omega))
  · exact r_S_like h.1 (r_rows (fun k h1 h2 => D0o k (by omega) (by omega) (by omega))) (fun _ _ => rfl) (Nat.le_refl _)
set_option maxHeartbeats 4000000 in
/-- a text whose commands are all carried out -/
theorem q_exec_ok (h : q_R B d z hs) (hB : B + 180 < 100000) (hL : L ≤ 60) (hl : d 168 1 = nI L) (ht7 : ∀ j, j < L → tx j < 128) (ht : ∀ j, j < L → d 169 j = nI (tx j)) (hk9 : k9 < 15) (hgood : ∀ j, j < k9 → tp_co tx L (tp_P tx L j) ∧ tp_c tx L (tp_ce tx L (tp_P tx L j)) 59 = true) (hco : tp_co tx L (tp_P tx L k9)) (hend : L ≤ tp_ce tx L (tp_P tx L k9))
    (zs : Nat → Nat → Int32) (h0 : zs 0 = z) (hst : ∀ i, i < k9 + 1 → ∃ o : q_O, q_cmd l (tp_vb tx L (tp_P tx L i)) (tp_v1 tx L (tp_P tx L i)) (tp_v2 tx L (tp_P tx L i)) (zs i) o ∧ o.1 = none ∧ o.2.2 = zs (i + 1)) :
    ∃ d1 : xd, (∀ G : xG, x_M G l yX11_execute wsX11_execute 10 0 0 [.ref (x_b G + 0)] d (some (.int (nI (k9 + 1)))) d1) ∧ q_R (B + 180) d1 (zs (k9 + 1)) (q_push z hs) ∧ d1 168 1 = 0 ∧ d1 0 = d 0 ∧ q_ke d d1 := by
  obtain ⟨n, w, q, v9, t, hq, q8, hz, z8⟩ := q_open h
  have co : ∀ i, i ≤ k9 → tp_co tx L (tp_P tx L i) := fun i hi => by
    rcases Nat.lt_or_ge i k9 with y | y
    · exact (hgood i y).1
    · have e : i = k9 := by omega
      subst e
      exact hco
  obtain ⟨dp, hdp⟩ : ∃ dp, dp = x_p (t_rc (t_pa d tx L k9) tx L (tp_P tx L k9) k9) 168 3 (nI (k9 + 1)) := ⟨_, rfl⟩
  have hpar : ∀ G, x_M G l yX3_parse wsX3_parse 8 0 0 [.ref (x_b G + 168)] d (some (.int 1)) dp := fun G => by
    rw [hdp]
    exact c_T_parse_ok l G d tx L hL hl ht ht7 k9 hgood hk9 hco hend
  have hout : ∀ k, k ≠ 168 → (k < 170 ∨ 172 < k) → dp k = d k := fun k h1 h2 => by
    rw [hdp]
    exact (x_p_ne h1).trans ((t_rx_out h1 h2).trans (t_pa_out h1 h2 k9))
  have h3 : dp 168 3 = nI (k9 + 1) := by rw [hdp]; exact x_p_at
  have hrows : ∀ i, i ≤ k9 → dp 170 i = nI (tp_vb tx L (tp_P tx L i) + 1) ∧ dp 171 i = nI (tp_v1 tx L (tp_P tx L i)) ∧ dp 172 i = nI (tp_v2 tx L (tp_P tx L i)) := by
    rw [hdp]
    exact t_ok_rows
  obtain ⟨D0, hD0⟩ : ∃ D0, D0 = f_cps (x_p dp 168 1 0) 15 1 := ⟨_, rfl⟩
  obtain ⟨D0o, D0r, D0t, D01, D0l, hs0⟩ := q_D0 h dp D0 hD0 hout
  rw [← h0] at hs0
  obtain ⟨Dw, d0, inv, st⟩ := q_run (l := l) (fun i => tp_vb tx L (tp_P tx L i)) (fun i => tp_v1 tx L (tp_P tx L i)) (fun i => tp_v2 tx L (tp_P tx L i)) zs hs0 hB (k9 + 1) (by omega) hst
  have hcm : ∀ i, i ≤ k9 + 1 → Dw i 168 3 = nI (k9 + 1) := fun i hi => by
    rw [(inv i hi).2 168 (by omega), D0t 3 (by omega)]
    exact h3
  have hvv : ∀ i, i ≤ k9 + 1 → i < k9 + 1 → tp_vb tx L (tp_P tx L i) < 13 ∧ Dw i 170 i = nI (tp_vb tx L (tp_P tx L i) + 1) ∧ Dw i 171 i = nI (tp_v1 tx L (tp_P tx L i)) ∧ Dw i 172 i = nI (tp_v2 tx L (tp_P tx L i)) := fun i hi hi2 => by
    rw [(inv i hi).2 170 (by omega), (inv i hi).2 171 (by omega), (inv i hi).2 172 (by omega), D0r 170 (by omega) (by omega), D0r 171 (by omega) (by omega), D0r 172 (by omega) (by omega)]
    exact ⟨(co i (by omega)).1, hrows i (by omega)⟩
  obtain ⟨dq, hdq⟩ : ∃ dq, dq = Dw (k9 + 1) := ⟨_, rfl⟩
  obtain ⟨i1, i2⟩ := inv (k9 + 1) (Nat.le_refl _)
  rw [← hdq] at i1 i2
  have dqo : ∀ k, (k = 0 ∨ (29 ≤ k ∧ k ≤ 156) ∨ (173 ≤ k ∨ k = 169)) → dq k = d k := fun k hk => by
    rw [i2 k (by omega), D0o k (by omega) (by omega) (by omega)]
  have hper : ∀ G, x_M G l yX11_performCommands wsX11_performCommands 7 0 0 [.ref (x_b G + 0)] D0 (some (.int (nI (k9 + 1)))) dq := fun G => by
    rw [hdq]
    exact c_F_performCommands_ok l G D0 Dw d0 (fun i => tp_vb tx L (tp_P tx L i)) (fun i => nI (tp_v1 tx L (tp_P tx L i))) (fun i => nI (tp_v2 tx L (tp_P tx L i))) (k9 + 1) (by omega) hcm hvv (fun i hi => ⟨(st i hi).1 G, (st i hi).2.1 G⟩)
  have hq2 : dq 43 1 = nI q := by rw [dqo 43 (by omega)]; exact hq
  have hz2 : dq 43 0 = nI v9 := by rw [dqo 43 (by omega)]; exact hz
  refine ⟨f_rem dq 15 q v9, fun G => c_F_execute l G d dp (hpar G) dq (k9 + 1) (k9 + 1) (by rw [← hD0]; exact hper G) (by rw [hdq]; exact hcm _ (Nat.le_refl _)) (by omega) (Nat.le_refl _) (by omega) q v9 hq2 hz2 q8 z8, ?_, ?_, ?_, ?_, ?_⟩
  · refine q_opx h (by omega) hq q8 hz z8 (fun k y1 y2 y3 => ?_) (f_rem_43 q8) ?_ ?_
    · rw [f_rem_in (by omega), f_cps_out (by omega), dqo k (by omega)]
    · exact r_like_trans D0l (r_like_trans (r_rows (d := D0) (d2 := dq) (fun k h1 h2 => i2 k (by omega))) (r_like_trans (r_copy (d := dq) (o := 45 + 14 * q) (o2 := 15) (by omega)) (r_rows (fun k h1 h2 => by rw [f_rem_in (by omega)]))))
    · exact r_S_like i1 (r_rows (fun k h1 h2 => f_rem_out (by omega) q8)) (fun _ _ => rfl) (by omega)
  · rw [f_rem_out (by omega) q8, i2 168 (by omega)]
    exact D01
  · rw [f_rem_out (by omega) q8, dqo 0 (by omega)]
  · intro j h1 h2
    rw [f_rem_out (by omega) q8, dqo 0 (by omega)]
  · intro k h1 h2
    rw [f_rem_out (by omega) q8, dqo k (by omega)]
set_option maxHeartbeats 4000000 in
/-- a text whose command f9 is refused -/
theorem q_exec_bad (hfl : l.stackTraces = false) (h : q_R B d z hs) (hB : B + 180 < 100000) (hL : L ≤ 60) (hl : d 168 1 = nI L) (ht7 : ∀ j, j < L → tx j < 128) (ht : ∀ j, j < L → d 169 j = nI (tx j)) (hk9 : k9 < 15) (hgood : ∀ j, j < k9 → tp_co tx L (tp_P tx L j) ∧ tp_c tx L (tp_ce tx L (tp_P tx L j)) 59 = true) (hco : tp_co tx L (tp_P tx L k9)) (hend : L ≤ tp_ce tx L (tp_P tx L k9))
    (f9 : Nat) (hf9 : f9 < k9 + 1) (zs : Nat → Nat → Int32) (h0 : zs 0 = z) (hst : ∀ i, i < f9 → ∃ o : q_O, q_cmd l (tp_vb tx L (tp_P tx L i)) (tp_v1 tx L (tp_P tx L i)) (tp_v2 tx L (tp_P tx L i)) (zs i) o ∧ o.1 = none ∧ o.2.2 = zs (i + 1))
    (hbad : ∃ o : q_O, q_cmd l (tp_vb tx L (tp_P tx L f9)) (tp_v1 tx L (tp_P tx L f9)) (tp_v2 tx L (tp_P tx L f9)) (zs f9) o ∧ ¬ o.1 = none) :
    ∃ d1 : xd, (∀ G : xG, x_X G l yX11_execute wsX11_execute 10 [.ref (x_b G + 0)] d q_eS d1) ∧ q_R B d1 z hs ∧ d1 168 1 = 0 ∧ d1 0 12 = nI f9 ∧ d1 0 11 = d 0 11 ∧ q_ke d d1 := by
  have co : ∀ i, i ≤ k9 → tp_co tx L (tp_P tx L i) := fun i hi => by
    rcases Nat.lt_or_ge i k9 with y | y
    · exact (hgood i y).1
    · have e : i = k9 := by omega
      subst e
      exact hco
  obtain ⟨dp, hdp⟩ : ∃ dp, dp = x_p (t_rc (t_pa d tx L k9) tx L (tp_P tx L k9) k9) 168 3 (nI (k9 + 1)) := ⟨_, rfl⟩
  have hpar : ∀ G, x_M G l yX3_parse wsX3_parse 8 0 0 [.ref (x_b G + 168)] d (some (.int 1)) dp := fun G => by
    rw [hdp]
    exact c_T_parse_ok l G d tx L hL hl ht ht7 k9 hgood hk9 hco hend
  have hout : ∀ k, k ≠ 168 → (k < 170 ∨ 172 < k) → dp k = d k := fun k h1 h2 => by
    rw [hdp]
    exact (x_p_ne h1).trans ((t_rx_out h1 h2).trans (t_pa_out h1 h2 k9))
  have h3 : dp 168 3 = nI (k9 + 1) := by rw [hdp]; exact x_p_at
  have hrows : ∀ i, i ≤ k9 → dp 170 i = nI (tp_vb tx L (tp_P tx L i) + 1) ∧ dp 171 i = nI (tp_v1 tx L (tp_P tx L i)) ∧ dp 172 i = nI (tp_v2 tx L (tp_P tx L i)) := by
    rw [hdp]
    exact t_ok_rows
  obtain ⟨D0, hD0⟩ : ∃ D0, D0 = f_cps (x_p dp 168 1 0) 15 1 := ⟨_, rfl⟩
  obtain ⟨D0o, D0r, D0t, D01, D0l, hs0⟩ := q_D0 h dp D0 hD0 hout
  rw [← h0] at hs0
  obtain ⟨Dw, d0, inv, st⟩ := q_run (l := l) (fun i => tp_vb tx L (tp_P tx L i)) (fun i => tp_v1 tx L (tp_P tx L i)) (fun i => tp_v2 tx L (tp_P tx L i)) zs hs0 hB f9 (by omega) hst
  have hcm : ∀ i, i ≤ f9 → Dw i 168 3 = nI (k9 + 1) := fun i hi => by
    rw [(inv i hi).2 168 (by omega), D0t 3 (by omega)]
    exact h3
  have hvv : ∀ i, i ≤ f9 → i < k9 + 1 → tp_vb tx L (tp_P tx L i) < 13 ∧ Dw i 170 i = nI (tp_vb tx L (tp_P tx L i) + 1) ∧ Dw i 171 i = nI (tp_v1 tx L (tp_P tx L i)) ∧ Dw i 172 i = nI (tp_v2 tx L (tp_P tx L i)) := fun i hi hi2 => by
    rw [(inv i hi).2 170 (by omega), (inv i hi).2 171 (by omega), (inv i hi).2 172 (by omega), D0r 170 (by omega) (by omega), D0r 171 (by omega) (by omega), D0r 172 (by omega) (by omega)]
    exact ⟨(co i (by omega)).1, hrows i (by omega)⟩
  obtain ⟨dq, hdq⟩ : ∃ dq, dq = Dw f9 := ⟨_, rfl⟩
  obtain ⟨i1, i2⟩ := inv f9 (Nat.le_refl _)
  obtain ⟨o, c1, c2⟩ := hbad
  rcases c1 (B + 12 * f9) (Dw f9) (by omega) i1 with ⟨y, -⟩ | ⟨-, r4, hr4, hr0, hrb⟩
  · exact absurd y c2
  rw [← hdq] at i1 i2
  have hper : ∀ G, x_M G l yX11_performCommands wsX11_performCommands 7 0 0 [.ref (x_b G + 0)] D0 (some (.int (nI f9))) dq := fun G => by
    rw [hdq]
    exact c_F_performCommands_bad l G D0 f9 Dw d0 (fun i => tp_vb tx L (tp_P tx L i)) (fun i => nI (tp_v1 tx L (tp_P tx L i))) (fun i => nI (tp_v2 tx L (tp_P tx L i))) (k9 + 1) (by omega) hcm hvv (fun i hi => ⟨(st i hi).1 G, (st i hi).2.1 G⟩) hf9 r4 hr4 hr0 (hrb G)
  have d1o : ∀ k, k ≠ 0 → (15 ≤ k ∧ k ≤ 156) ∨ 168 ≤ k → x_p (f_cps dq 1 15) 0 12 (nI f9) k = D0 k := fun k y1 y2 => by
    rw [x_p_ne y1, f_cps_out (by omega), i2 k (by omega)]
  have q0 : ∀ j, j ≠ 12 → x_p (f_cps dq 1 15) 0 12 (nI f9) 0 j = d 0 j := fun j y => by
    rw [x_p_row y, f_cps_out (by omega), i2 0 (by omega), D0o 0 (by omega) (by omega) (by omega)]
  refine ⟨x_p (f_cps dq 1 15) 0 12 (nI f9), fun G => c_F_execute_3 l hfl G d dp (hpar G) dq f9 (k9 + 1) (by rw [← hD0]; exact hper G) (by rw [hdq]; exact hcm _ (Nat.le_refl _)) (by omega) hf9, ⟨?_, ?_⟩, ?_, x_p_at, q0 11 (by omega), fun j y1 y2 => q0 j y2, ?_⟩
  · exact r_S_like h.1 (r_like_trans D0l (r_like_trans (r_rows (d := D0) (d2 := dq) (fun k h1 h2 => i2 k (by omega))) (r_like_trans (r_copy (d := dq) (o := 1) (o2 := 15) (by omega)) (r_rows (fun k h1 h2 => by rw [x_p_ne (by omega)]))))) (fun _ _ => rfl) (Nat.le_refl _)
  · exact q_H_like h.2 (fun k h1 h2 => by rw [d1o k (by omega) (by omega), D0o k (by omega) (by omega) (by omega)]) (Nat.le_refl _)
  · rw [d1o 168 (by omega) (by omega)]
    exact D01
  · intro k h1 h2
    rw [d1o k (by omega) (by omega), D0o k (by omega) (by omega) (by omega)]
/-- a text that can't be read -/
theorem q_exec_err0 (hfl : l.stackTraces = false) (h : q_R B d z hs) (dp : xd) (e9 : Nat) (hpar : ∀ G : xG, x_M G l yX3_parse wsX3_parse 8 0 0 [.ref (x_b G + 168)] d (some (.int 0)) dp) (hout : ∀ k, k ≠ 168 → (k < 170 ∨ 172 < k) → dp k = d k) (hpos : dp 168 2 = nI e9) :
    ∃ d1 : xd, (∀ G : xG, x_X G l yX11_execute wsX11_execute 10 [.ref (x_b G + 0)] d q_eA d1) ∧ q_R B d1 z hs ∧ d1 168 1 = 0 ∧ d1 0 11 = nI e9 ∧ d1 0 12 = d 0 12 ∧ q_ke d d1 := by
  have k1 : ∀ k, k ≠ 0 → k ≠ 168 → (k < 170 ∨ 172 < k) → x_p (x_p dp 168 1 0) 0 11 (nI e9) k = d k := fun k h3 h4 h5 => by
    rw [x_p_ne h3, x_p_ne h4, hout k h4 h5]
  have k0 : ∀ j, j ≠ 11 → x_p (x_p dp 168 1 0) 0 11 (nI e9) 0 j = d 0 j := fun j h1 => by
    rw [x_p_row h1, x_p_ne (by omega), hout 0 (by omega) (by omega)]
  exact ⟨x_p (x_p dp 168 1 0) 0 11 (nI e9), fun G => c_F_execute_2 l hfl G d dp (hpar G) e9 hpos, q_R_like h (fun k y1 y2 => k1 k (by omega) (by omega) (by omega)) (fun k y1 y2 => k1 k (by omega) (by omega) (by omega)) (Nat.le_refl _), by rw [x_p_ne (by omega), x_p_at], x_p_at, k0 12 (by omega), fun j y1 y2 => k0 j y1, fun k y1 y2 => k1 k (by omega) (by omega) (by omega)⟩
theorem q_exec_err1 (hfl : l.stackTraces = false) (h : q_R B d z hs) (hL : L ≤ 60) (hl : d 168 1 = nI L) (ht7 : ∀ j, j < L → tx j < 128) (ht : ∀ j, j < L → d 169 j = nI (tx j)) (hk9 : k9 < 15) (hgood : ∀ j, j < k9 → tp_co tx L (tp_P tx L j) ∧ tp_c tx L (tp_ce tx L (tp_P tx L j)) 59 = true) (hco : ¬ tp_co tx L (tp_P tx L k9)) :
    ∃ d1 : xd, (∀ G : xG, x_X G l yX11_execute wsX11_execute 10 [.ref (x_b G + 0)] d q_eA d1) ∧ q_R B d1 z hs ∧ d1 168 1 = 0 ∧ d1 0 11 = nI (tp_ce tx L (tp_P tx L k9)) ∧ d1 0 12 = d 0 12 ∧ q_ke d d1 :=
  q_exec_err0 hfl h _ _ (fun G => c_T_parse_bad1 l G d tx L hL hl ht ht7 k9 hgood hk9 hco) (fun k h1 h2 => (tp_rf_out h1 h2).trans (t_pa_out h1 h2 k9)) (tp_rf_2 hco)
theorem q_exec_err2 (hfl : l.stackTraces = false) (h : q_R B d z hs) (hL : L ≤ 60) (hl : d 168 1 = nI L) (ht7 : ∀ j, j < L → tx j < 128) (ht : ∀ j, j < L → d 169 j = nI (tx j)) (hk9 : k9 < 15) (hgood : ∀ j, j < k9 → tp_co tx L (tp_P tx L j) ∧ tp_c tx L (tp_ce tx L (tp_P tx L j)) 59 = true) (hco : tp_co tx L (tp_P tx L k9)) (hlt : tp_ce tx L (tp_P tx L k9) < L) (hno : ¬ tp_c tx L (tp_ce tx L (tp_P tx L k9)) 59 = true) :
    ∃ d1 : xd, (∀ G : xG, x_X G l yX11_execute wsX11_execute 10 [.ref (x_b G + 0)] d q_eA d1) ∧ q_R B d1 z hs ∧ d1 168 1 = 0 ∧ d1 0 11 = nI (tp_ce tx L (tp_P tx L k9)) ∧ d1 0 12 = d 0 12 ∧ q_ke d d1 :=
  q_exec_err0 hfl h _ _ (fun G => c_T_parse_bad2 l G d tx L hL hl ht ht7 k9 hgood hk9 hco hlt hno) (fun k h1 h2 => (x_p_ne h1).trans ((t_rx_out h1 h2).trans (t_pa_out h1 h2 k9))) (by rw [x_p_row (by omega)]; exact t_rc_2 hco)
/-- one change is taken back -/
theorem q_undo {z1 : Nat → Int32} (h : q_R B d z (z1 :: hs)) : ∃ d1 : xd, (∀ G : xG, x_M G l yX11_undo wsX11_undo 5 0 0 [.ref (x_b G + 0)] d (some (.int (nI hs.length))) d1) ∧ q_R B d1 z1 hs ∧ q_k d d1 := by
  obtain ⟨a1, q, e1, e2, e3, e4, e5⟩ := h
  rw [List.length_cons] at e3 e4
  have hm8 : (q + 7) % 8 < 8 := Nat.mod_lt _ (by omega)
  have o1 : ∀ k, k ≠ 43 → (k < 2 ∨ 14 < k) → f_tkb d 1 q (hs.length + 1) k = d k := fun k hk hk2 => by
    unfold f_tkb
    rw [x_p_ne hk, f_cps_out (by omega), x_p_ne hk]
  have o2 : f_tkb d 1 q (hs.length + 1) 43 1 = nI ((q + 7) % 8) ∧ f_tkb d 1 q (hs.length + 1) 43 0 = nI hs.length := by
    unfold f_tkb
    refine ⟨?_, by rw [x_p_at]; rfl⟩
    rw [x_p_row (by omega), f_cps_out (by omega), x_p_at]
  have o3 : r_like d (45 + 14 * ((q + 7) % 8)) (f_tkb d 1 q (hs.length + 1)) 1 :=
    r_like_trans (r_rows (fun k h1 h2 => x_p_ne (by omega))) (r_like_trans (r_copy (d := x_p d 43 1 (nI ((q + 7) % 8))) (o := 1) (o2 := 45 + 14 * ((q + 7) % 8)) (by omega)) (r_rows (fun k h1 h2 => by
      unfold f_tkb
      rw [x_p_ne (by omega)])))
  refine ⟨f_tkb d 1 q (hs.length + 1), fun G => c_F_undo l G d q (hs.length + 1) e1 e3 e2 e4 (by omega), ⟨?_, (q + 7) % 8, o2.1, hm8, o2.2, by omega, fun j z9 hj => ?_⟩, fun k hk => o1 k (by omega) (by omega)⟩
  · have hs9 := e5 0 z1 rfl
    rw [show (q + 7 - 0) % 8 = (q + 7) % 8 by omega] at hs9
    exact r_S_like hs9 o3 (fun _ _ => rfl) (Nat.le_refl _)
  · have hs9 := e5 (j + 1) z9 (by rw [List.getElem?_cons_succ]; exact hj)
    have hj8 := (List.getElem?_eq_some_iff.mp hj).1
    rw [show (q + 7 - (j + 1)) % 8 = ((q + 7) % 8 + 7 - j) % 8 by omega] at hs9
    have hlt : ((q + 7) % 8 + 7 - j) % 8 < 8 := Nat.mod_lt _ (by omega)
    exact r_S_like hs9 (r_rows (fun k h1 h2 => o1 k (by omega) (by omega))) (fun _ _ => rfl) (Nat.le_refl _)
/-- the snapshot -/
def q_N (B : Nat) (d : xd) (zv : Nat → Int32) : Prop := ¬ d 0 3 = 0 ∧ r_S B d 29 zv
theorem q_N_k {B2 : Nat} {d1 : xd} (h : q_N B d z) (hk : q_k d d1) (hB : B ≤ B2) : q_N B2 d1 z := ⟨by rw [hk 0 (by omega)]; exact h.1, r_S_like h.2 (r_rows (fun k h1 h2 => hk k (by omega))) (fun _ _ => rfl) hB⟩
theorem q_N_ke {B2 : Nat} {d1 : xd} (h : q_N B d z) (hk : q_ke d d1) (hB : B ≤ B2) : q_N B2 d1 z := ⟨by rw [hk.1 3 (by omega) (by omega)]; exact h.1, r_S_like h.2 (r_rows (fun k h1 h2 => hk.2 k (by omega) (by omega))) (fun _ _ => rfl) hB⟩
theorem q_save (h : q_R B d z hs) : ∃ d1 : xd, (∀ G : xG, x_M G l yX11_save wsX11_save 4 0 0 [.ref (x_b G + 0)] d (some (.int (z 0))) d1) ∧ q_R B d1 z hs ∧ q_N B d1 z ∧ (∀ k, 157 ≤ k → d1 k = d k) ∧ d1 0 11 = d 0 11 ∧ d1 0 12 = d 0 12 := by
  obtain ⟨n, w, q, v9, t, -⟩ := q_open h
  have e0 : d 2 0 = z 0 := t.1.1.trans t.1.2.1.symm
  have o : ∀ k, k ≠ 0 → (k < 30 ∨ 42 < k) → x_p (f_cps d 29 1) 0 3 1 k = d k := fun k h1 h2 => by rw [x_p_ne h1, f_cps_out (by omega)]
  refine ⟨x_p (f_cps d 29 1) 0 3 1, fun G => by rw [← e0]; exact c_F_save l G d, q_R_like h (fun k h1 h2 => o k (by omega) (by omega)) (fun k h1 h2 => o k (by omega) (by omega)) (Nat.le_refl _), ⟨?_, ?_⟩, fun k h1 => o k (by omega) (by omega), ?_, ?_⟩
  · rw [x_p_at]
    decide
  · exact r_S_like h.1 (r_like_trans (r_copy (d := d) (o := 29) (o2 := 1) (by omega)) (r_rows (fun k h1 h2 => by rw [x_p_ne (by omega)]))) (fun _ _ => rfl) (Nat.le_refl _)
  · rw [x_p_row (by omega), f_cps_out (by omega)]
  · rw [x_p_row (by omega), f_cps_out (by omega)]
theorem q_restore {zv : Nat → Int32} (h : q_R B d z hs) (hn : q_N B d zv) : ∃ d1 : xd, (∀ G : xG, x_M G l yX11_restore wsX11_restore 4 0 0 [.ref (x_b G + 0)] d (some (.int (zv 0))) d1) ∧ q_R B d1 zv [] := by
  obtain ⟨q, e1, e2, e3, e4, e5⟩ := h.2
  have hs3 : d 30 0 = zv 0 := by
    obtain ⟨n9, w9, r9⟩ := hn.2
    exact r9.1.1.trans r9.1.2.1.symm
  refine ⟨x_p (f_cps d 1 29) 43 0 0, fun G => by rw [← hs3]; exact c_F_restore l G d hn.1, ?_, q, ?_, e2, ?_, by simp, fun j z9 hj => by simp at hj⟩
  · exact r_S_like hn.2 (r_like_trans (r_copy (d := d) (o := 1) (o2 := 29) (by omega)) (r_rows (fun k h1 h2 => by rw [x_p_ne (by omega)]))) (fun _ _ => rfl) (Nat.le_refl _)
  · rw [x_p_row (by omega), f_cps_out (by omega)]
    exact e1
  · rw [x_p_at]
    rfl
end QX
