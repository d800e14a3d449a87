/-! execute: the class reads and performs, the model reads and carries out -/
theorem o_least (p : Nat → Prop) : ∀ n, ¬ (∀ j, j < n → p j) → ∃ k, k < n ∧ (∀ j, j < k → p j) ∧ ¬ p k := by
  intro n
  induction n with
  | zero => intro h; exact absurd (fun j hj => absurd hj (Nat.not_lt_zero j)) h
  | succ n ih =>
    intro h
    by_cases hn : ∀ j, j < n → p j
    · exact ⟨n, Nat.lt_succ_self n, hn, fun hp => h (fun j hj => by
        rcases Nat.lt_or_ge j n with y | y
        · exact hn j y
        · have e : j = n := by omega
          subst e
          exact hp)⟩
    · obtain ⟨k, h1, h2, h3⟩ := ih hn
      exact ⟨k, by omega, h2, h3⟩
theorem o_seq {α β : Type} (a0 : α) (f : Nat → α → β) (g : Nat → β → α) : ∃ (A : Nat → α) (Bq : Nat → β), A 0 = a0 ∧ (∀ i, Bq i = f i (A i)) ∧ ∀ i, A (i + 1) = g i (Bq i) :=
  ⟨fun i => Nat.rec (motive := fun _ => α) a0 (fun i a => g i (f i a)) i, fun i => f i (Nat.rec (motive := fun _ => α) a0 (fun i a => g i (f i a)) i), rfl, fun _ => rfl, fun _ => rfl⟩
theorem tp_mx_in {tx : Nat → Nat} {L p : Nat} (hp : p ≤ L) : ∀ i, p + tp_mx tx L p i ≤ L
  | 0 => by
    rw [tp_mx]
    omega
  | i + 1 => by
    have h1 := tp_mx_in (tx := tx) hp i
    have h2 := tp_mg_in tx L p i (x_wL i)
    rw [tp_mx]
    unfold tp_ml
    omega
theorem tp_ce_in {tx : Nat → Nat} {L p : Nat} (hp : p ≤ L) : tp_ce tx L p ≤ L := by
  unfold tp_ce
  split
  · rename_i h
    have hq := tp_vb_in hp h rfl
    split
    · exact tp_ap_le hq _
    · exact tp_ap_le hq _
  · exact tp_mx_in hp 13
theorem tp_rf_2 {d : xd} {tx : Nat → Nat} {L p c : Nat} (h : ¬ tp_co tx L p) : t_rf d tx L p c 168 2 = nI (tp_ce tx L p) := by
  unfold t_rf tp_ce
  by_cases hv : tp_vb tx L p < 13
  · rw [if_pos hv, if_pos hv, if_neg (fun q => h ⟨hv, q⟩)]
    unfold t_rx
    exact t_w_2
  · rw [if_neg hv, if_neg hv]
    exact x_p_at
theorem tp_rf_out {d : xd} {tx : Nat → Nat} {L p c k : Nat} (h : k ≠ 168) (h2 : k < 170 ∨ 172 < k) : t_rf d tx L p c k = d k := by
  unfold t_rf
  split
  · exact t_rx_out h h2
  · exact x_p_ne h
theorem r_S_up {B B2 : Nat} {d : xd} {o : Nat} {z : Nat → Int32} (h : r_S B d o z) (hB : B ≤ B2) : r_S B2 d o z := by
  obtain ⟨n, w, t⟩ := h
  exact y_up t hB
theorem r_like_trans {d d2 d3 : xd} {o o2 o3 : Nat} (h : r_like d o d2 o2) (h2 : r_like d2 o2 d3 o3) : r_like d o d3 o3 := by
  obtain ⟨a1, a2, a3, a4, a5⟩ := h
  obtain ⟨b1, b2, b3, b4, b5⟩ := h2
  refine ⟨b1.trans a1, b2.trans a2, fun i hi => ?_, fun k hk => ?_, fun j hj => (b5 j hj).trans (a5 j hj)⟩
  · obtain ⟨p1, p2, p3, p4, p5, p6, p7⟩ := a3 i hi
    obtain ⟨q1, q2, q3, q4, q5, q6, q7⟩ := b3 i hi
    exact ⟨q1.trans p1, q2.trans p2, q3.trans p3, q4.trans p4, q5.trans p5, q6.trans p6, q7.trans p7⟩
  · obtain ⟨p1, p2, p3⟩ := a4 k hk
    obtain ⟨q1, q2, q3⟩ := b4 k hk
    exact ⟨q1.trans p1, q2.trans p2, q3.trans p3⟩
set_option maxHeartbeats 1000000 in
/-- the model reads: as many commands as stand whole, and one more -/
theorem m_read (l : Launch) (G : xG) (d1 : xd) (tx : Nat → Nat) (L : Nat) (hL : L ≤ 60) (h7 : d1 175 7 = nI L) (htx : ∀ j, j < L → d1 180 j = nI (tx j)) (ht7 : ∀ j, j < L → tx j < 128) (k9 : Nat) (hk9 : k9 ≤ 15) (hgood : ∀ j, j < k9 → tp_co tx L (tp_P tx L j) ∧ tp_c tx L (tp_ce tx L (tp_P tx L j)) 59 = true) :
    ∃ Ew Fw : Nat → xd, Ew 0 = x_p (x_p d1 175 13 0) 175 14 0 ∧ (∀ i, Ew (i + 1) = x_p (Fw i) 175 13 (nI (tp_ce tx L (tp_P tx L i) + 1))) ∧ (∀ i, i ≤ k9 → x_M G l yX12_parsesCommand wsX12_parsesCommand 5 0 0 [.ref (x_b G + 175), .int (nI (3 * i))] (Ew i) none (Fw i) ∧ tm_R tx L (tp_P tx L i) (3 * i) (Ew i) (Fw i) ∧ (∀ j, j ≠ 175 → j ≠ 182 → Fw i j = d1 j) ∧ (∀ j, j ≠ 13 → j ≠ 14 → Fw i 175 j = d1 175 j)) ∧ ∀ i, i ≤ k9 → ∀ w, w ≤ i → ∀ j, j < 3 → Fw i 182 (3 * w + j) = Fw w 182 (3 * w + j) := by
  obtain ⟨Ew, Fw, e0, eF, eE⟩ := o_seq (x_p (x_p d1 175 13 0) 175 14 0) (fun i E => Classical.epsilon (fun F : xd => x_M G l yX12_parsesCommand wsX12_parsesCommand 5 0 0 [.ref (x_b G + 175), .int (nI (3 * i))] E none F ∧ tm_R tx L (tp_P tx L i) (3 * i) E F)) (fun i F => x_p F 175 13 (nI (tp_ce tx L (tp_P tx L i) + 1)))
  have spec : ∀ i, i ≤ k9 → (Ew i 175 13 = nI (tp_P tx L i) ∧ Ew i 175 14 = 0 ∧ (∀ j, j ≠ 13 → j ≠ 14 → Ew i 175 j = d1 175 j) ∧ (∀ j, j ≠ 175 → j ≠ 182 → Ew i j = d1 j)) ∧ (x_M G l yX12_parsesCommand wsX12_parsesCommand 5 0 0 [.ref (x_b G + 175), .int (nI (3 * i))] (Ew i) none (Fw i) ∧ tm_R tx L (tp_P tx L i) (3 * i) (Ew i) (Fw i)) := by
    have fromA : ∀ i, i ≤ k9 → (Ew i 175 13 = nI (tp_P tx L i) ∧ Ew i 175 14 = 0 ∧ (∀ j, j ≠ 13 → j ≠ 14 → Ew i 175 j = d1 175 j) ∧ (∀ j, j ≠ 175 → j ≠ 182 → Ew i j = d1 j)) → (x_M G l yX12_parsesCommand wsX12_parsesCommand 5 0 0 [.ref (x_b G + 175), .int (nI (3 * i))] (Ew i) none (Fw i) ∧ tm_R tx L (tp_P tx L i) (3 * i) (Ew i) (Fw i)) := fun i hi ⟨a1, a2, a3, a4⟩ => by
      rw [eF i]
      exact Classical.epsilon_spec (tm_all l G (Ew i) tx L hL ((a3 7 (by omega) (by omega)).trans h7) (fun j hj => by rw [a4 180 (by omega) (by omega)]; exact htx j hj) ht7 (tp_P tx L i) (tp_P_le i (fun j hj => hgood j (by omega))) a1 a2 (3 * i) (by omega))
    intro i
    induction i with
    | zero =>
      intro hi
      have hA : Ew 0 175 13 = nI (tp_P tx L 0) ∧ Ew 0 175 14 = 0 ∧ (∀ j, j ≠ 13 → j ≠ 14 → Ew 0 175 j = d1 175 j) ∧ (∀ j, j ≠ 175 → j ≠ 182 → Ew 0 j = d1 j) := by
        rw [e0]
        exact ⟨by rw [x_p_row (by omega), x_p_at]; rfl, x_p_at, fun j h1 h2 => by rw [x_p_row h2, x_p_row h1], fun j h1 h2 => by rw [x_p_ne h1, x_p_ne h1]⟩
      exact ⟨hA, fromA 0 hi hA⟩
    | succ i ih =>
      intro hi
      obtain ⟨⟨a1, a2, a3, a4⟩, b1, t1, t2, t3, t4, t5, t6, t7⟩ := ih (by omega)
      have hg := hgood i (by omega)
      have hA : Ew (i + 1) 175 13 = nI (tp_P tx L (i + 1)) ∧ Ew (i + 1) 175 14 = 0 ∧ (∀ j, j ≠ 13 → j ≠ 14 → Ew (i + 1) 175 j = d1 175 j) ∧ (∀ j, j ≠ 175 → j ≠ 182 → Ew (i + 1) j = d1 j) := by
        rw [eE i]
        exact ⟨x_p_at, by rw [x_p_row (by omega)]; exact t2 hg.1, fun j h1 h2 => by rw [x_p_row h1, t6 j h1 h2]; exact a3 j h1 h2, fun j h1 h2 => by rw [x_p_ne h1, t5 j h1 h2]; exact a4 j h1 h2⟩
      exact ⟨hA, fromA (i + 1) hi hA⟩
  refine ⟨Ew, Fw, e0, eE, fun i hi => ?_, fun i => ?_⟩
  · obtain ⟨⟨a1, a2, a3, a4⟩, b1, b2⟩ := spec i hi
    exact ⟨b1, b2, fun j h1 h2 => (b2.2.2.2.2.1 j h1 h2).trans (a4 j h1 h2), fun j h1 h2 => (b2.2.2.2.2.2.1 j h1 h2).trans (a3 j h1 h2)⟩
  · induction i with
    | zero =>
      intro _ w hw j _
      have e : w = 0 := by omega
      subst e
      rfl
    | succ i ih =>
      intro hi w hw j hj
      by_cases e : w = i + 1
      · subst e
        rfl
      · obtain ⟨-, -, b2⟩ := spec (i + 1) hi
        rw [b2.2.2.2.2.2.2 (3 * w + j) (by omega), eE i, x_p_ne (by omega)]
        exact ih (by omega) w (by omega) j hj
set_option maxHeartbeats 1000000 in
/-- the commands, one after another, on both sides -/
theorem y_run {l : Launch} {B : Nat} {D0 : xd} {z0 : Nat → Int32} (vv av bv : Nat → Nat) (c9 : Nat) (hc9 : c9 ≤ 15) (hv : ∀ i, i < c9 → vv i < 13 ∧ av i < 1000 ∧ bv i < 1000) (h0 : r_S B D0 1 z0) (hB : B + 180 < 100000) :
    ∃ (Dw : Nat → xd) (zw : Nat → Nat → Int32) (f9 : Nat), Dw 0 = D0 ∧ zw 0 = z0 ∧ f9 ≤ c9 ∧ (∀ i, i ≤ f9 → r_S (B + 12 * i) (Dw i) 1 (zw i) ∧ y_fr D0 (Dw i)) ∧ (∀ i, i < f9 → y_cok l (Dw i) (Dw (i + 1)) (vv i) (av i) (bv i) ∧ y_mok l (zw i) (zw (i + 1)) (vv i) (av i) (bv i) i) ∧ (f9 = c9 ∨ (f9 < c9 ∧ y_cbad l (Dw f9) (vv f9) (av f9) (bv f9) ∧ y_mbad l (zw f9) (vv f9) (av f9) (bv f9) f9)) := by
  obtain ⟨A, Bq, a0, aF, aE⟩ := o_seq (D0, z0) (fun i (X : xd × (Nat → Int32)) => Classical.epsilon (fun Y : xd × (Nat → Int32) => y_cok l X.1 Y.1 (vv i) (av i) (bv i) ∧ r_S (B + 12 * (i + 1)) Y.1 1 Y.2 ∧ y_mok l X.2 Y.2 (vv i) (av i) (bv i) i)) (fun _ Y => Y)
  have main : ∀ f9, f9 ≤ c9 → (∀ i, i < f9 → ∃ Y : xd × (Nat → Int32), y_cok l (A i).1 Y.1 (vv i) (av i) (bv i) ∧ r_S (B + 12 * (i + 1)) Y.1 1 Y.2 ∧ y_mok l (A i).2 Y.2 (vv i) (av i) (bv i) i) → (∀ i, i ≤ f9 → r_S (B + 12 * i) (A i).1 1 (A i).2 ∧ y_fr D0 (A i).1) ∧ (∀ i, i < f9 → y_cok l (A i).1 (A (i + 1)).1 (vv i) (av i) (bv i) ∧ y_mok l (A i).2 (A (i + 1)).2 (vv i) (av i) (bv i) i) := by
    intro f9 hf hok
    have st : ∀ i, i < f9 → y_cok l (A i).1 (A (i + 1)).1 (vv i) (av i) (bv i) ∧ r_S (B + 12 * (i + 1)) (A (i + 1)).1 1 (A (i + 1)).2 ∧ y_mok l (A i).2 (A (i + 1)).2 (vv i) (av i) (bv i) i := fun i hi => by
      rw [aE i, aF i]
      exact Classical.epsilon_spec (hok i hi)
    refine ⟨fun i => ?_, fun i hi => ⟨(st i hi).1, (st i hi).2.2⟩⟩
    induction i with
    | zero =>
      intro _
      rw [a0]
      exact ⟨h0, fun _ _ => rfl⟩
    | succ i ih =>
      intro hi
      obtain ⟨-, i2⟩ := ih (by omega)
      obtain ⟨⟨-, -, s1⟩, s2, -⟩ := st i (by omega)
      exact ⟨s2, fun k hk => (s1 k hk).trans (i2 k hk)⟩
  by_cases hall : ∀ i, i < c9 → ∃ Y : xd × (Nat → Int32), y_cok l (A i).1 Y.1 (vv i) (av i) (bv i) ∧ r_S (B + 12 * (i + 1)) Y.1 1 Y.2 ∧ y_mok l (A i).2 Y.2 (vv i) (av i) (bv i) i
  · obtain ⟨m1, m2⟩ := main c9 (Nat.le_refl _) hall
    exact ⟨fun i => (A i).1, fun i => (A i).2, c9, congrArg Prod.fst a0, congrArg Prod.snd a0, Nat.le_refl _, m1, m2, Or.inl rfl⟩
  · obtain ⟨f9, hf, hlt, hno⟩ := o_least _ c9 hall
    obtain ⟨m1, m2⟩ := main f9 (by omega) hlt
    obtain ⟨v1, v2, v3⟩ := hv f9 hf
    refine ⟨fun i => (A i).1, fun i => (A i).2, f9, congrArg Prod.fst a0, congrArg Prod.snd a0, by omega, m1, m2, Or.inr ⟨hf, ?_⟩⟩
    rcases k_all (l := l) (v := vv f9) (a := av f9) (b := bv f9) (i9 := f9) (m1 f9 (Nat.le_refl _)).1 (by omega) v1 v2 v3 (by omega) with ⟨D2, z2, c1, c2, c3⟩ | hb
    · exact absurd ⟨(D2, z2), c1, r_S_up c2 (by omega), c3⟩ hno
    · exact hb
theorem y_Z_e {B B2 : Nat} {d d2 : xd} (h : y_Z B d) (hB : B ≤ B2) (s : r_S B2 d2 1 (d2 176)) (c : ∀ k, (29 ≤ k ∧ k ≤ 43) ∨ (45 ≤ k ∧ k ≤ 156) ∨ k = 169 ∨ k = 173 ∨ k = 174 ∨ (178 ≤ k ∧ k ≤ 181) → d2 k = d k) (c3 : d2 0 3 = d 0 3) (c1 : d2 168 1 = 0) (m : ∀ j, j = 3 ∨ j = 5 ∨ j = 11 → d2 175 j = d 175 j) (m7 : d2 175 7 = 0) (e : d2 0 11 = d2 175 8) (e2 : d2 0 12 = d2 175 9) : y_Z B2 d2 :=
  ⟨s, y_H_c h.2.1 (c 43 (by omega)) (fun k h1 h2 => c k (by omega)) (c 178 (by omega)) (m 3 (by omega)) hB, y_N_c h.2.2.1 c3 (fun k h1 h2 => c k (by omega)) (c 179 (by omega)) (m 5 (by omega)) hB,
    ⟨0, fun _ => 0, by omega, c1, m7, fun j hj => absurd hj (Nat.not_lt_zero j)⟩, y_L_c h.2.2.2.2.1 (by rw [c 173 (by omega)]) (by rw [c 173 (by omega)]) (c 174 (by omega)) (c 181 (by omega)) (m 11 (by omega)), e, e2⟩
def y_S2 (l : Launch) (B : Nat) (d : xd) (y : MethodName) (ws : List Cond) (av : xG → List Value) (Es : List String) (y2 : MethodName) (ws2 : List Cond) (av2 : xG → List Value) : Prop :=
  ∃ (k : Nat) (r : Int32) (d1 : xd), k ≤ 3 ∧ y_C l y ws av Es k (.int r) d d1 ∧ ∀ G : xG, ∃ (b : Int32) (d2 : xd) (lv : Nat), lv ≤ 10 ∧ x_M G l y2 ws2 lv 0 0 (av2 G) d1 (some (.int b)) d2 ∧ d2 175 12 = nI k ∧ (k = 0 → r = b) ∧ y_Z (B + 180) d2
theorem y_S.two {l : Launch} {B : Nat} {d : xd} {y y2 : MethodName} {ws ws2 : List Cond} {av av2 : xG → List Value} {Es : List String} (h : y_S l B d y ws av Es y2 ws2 av2) : y_S2 l B d y ws av Es y2 ws2 av2 := by
  obtain ⟨k, r, b, d1, d2, hk, hc, ⟨lv, hlv, hm⟩, h12, hr, hz⟩ := h
  exact ⟨k, r, d1, hk, hc, fun G => ⟨b, d2, lv, hlv, hm G, h12, hr, hz⟩⟩
set_option maxHeartbeats 1000000 in
/-- one more state in the ring, on both sides -/
theorem y_opx {B B2 : Nat} {d d1 : xd} {g : Nat → Int32} {q z : Nat} (h : y_Z B d) (hB : B ≤ B2) (hq : d 43 1 = nI q) (q8 : q < 8) (hz : d 43 0 = nI z) (z8 : z ≤ 8)
    (h0 : d1 0 = d 0) (hA : ∀ k, (29 ≤ k ∧ k ≤ 42) ∨ (44 ≤ k ∧ k ≤ 156 ∧ (k < 45 + 14 * q + 1 ∨ 45 + 14 * q + 13 < k)) ∨ 168 ≤ k → d1 k = d k) (h43 : d1 43 1 = nI ((q + 1) % 8) ∧ d1 43 0 = nI (min (z + 1) 8)) (hC : r_like d 1 d1 (45 + 14 * q)) (hs : r_S B2 d1 1 g) : y_Z B2 (g_kp (g_ok (g_bg d1) g) z) := by
  obtain ⟨a1, ⟨q2, z2, e1, e2, e3, e4, e5, e6⟩, a3, a4, a5, a6⟩ := h
  have hqq : q2 = q := (nI_eq (by omega) (by omega)).mp (e1.symm.trans hq)
  have hzz : z2 = z := (nI_eq (by omega) (by omega)).mp (e3.symm.trans hz)
  subst hqq
  subst hzz
  have k1 : ∀ k, k ≠ 175 → k ≠ 176 → k ≠ 177 → k ≠ 178 → g_kp (g_ok (g_bg d1) g) z2 k = d1 k := fun k h5 h6 h7 h8 => by
    rw [g_kp_out h5 h8, g_ok_ne h5 h6]
    unfold g_bg
    rw [x_r_ne2 h7]
  have k6 : g_kp (g_ok (g_bg d1) g) z2 176 = g := by rw [g_kp_out (by omega) (by omega), g_ok_176]
  have kg : y_G d (g_kp (g_ok (g_bg d1) g) z2) := by
    have o : ∀ k, (29 ≤ k ∧ k ≤ 42) ∨ k = 169 ∨ k = 173 ∨ k = 174 ∨ (179 ≤ k ∧ k ≤ 181) ∨ k = 168 → g_kp (g_ok (g_bg d1) g) z2 k = d k := fun k hk => by
      rw [k1 k (by omega) (by omega) (by omega) (by omega), hA k (by omega)]
    refine ⟨fun k hk => ?_, by rw [o 168 (by omega)], fun j hj => ?_⟩
    · rcases hk with rfl | hk
      · rw [k1 0 (by omega) (by omega) (by omega) (by omega), h0]
      · exact o k (by omega)
    · rw [g_kp_row (by omega), g_ok_row (by omega)]
      unfold g_bg
      rw [x_r_ne2 (by omega), hA 175 (by omega)]
  refine ⟨?_, ?_, y_N_G a3 kg hB, y_X_G a4 kg, y_L_G a5 kg, y_R_G a6 kg⟩
  · rw [k6]
    exact r_S_like hs (r_rows (fun k hk hk2 => k1 k (by omega) (by omega) (by omega) (by omega))) (fun _ _ => rfl) (Nat.le_refl _)
  · have m8 : g_ok (g_bg d1) g 178 = d 178 := by
      rw [g_ok_ne (by omega) (by omega)]
      unfold g_bg
      rw [x_r_ne2 (by omega), hA 178 (by omega)]
    have m7 : ∀ k, k < 80 → g_ok (g_bg d1) g 177 k = d 176 k := fun k hk => by
      rw [g_ok_ne (by omega) (by omega)]
      unfold g_bg
      rw [x_r_same, pk_cpy_in (by omega) (by omega), hA 176 (by omega)]
      exact congrArg (d 176) (by omega)
    refine ⟨(q2 + 1) % 8, min (z2 + 1) 8, by rw [k1 43 (by omega) (by omega) (by omega) (by omega)]; exact h43.1, by omega, by rw [k1 43 (by omega) (by omega) (by omega) (by omega)]; exact h43.2, by omega, g_kp_3 z8, fun j hj => ?_⟩
    by_cases hl : j = min z2 7
    · have hslot : ((q2 + 1) % 8 + 8 - min (z2 + 1) 8 + j) % 8 = q2 := by omega
      rw [hslot]
      have hl1 : r_like d 1 (g_kp (g_ok (g_bg d1) g) z2) (45 + 14 * q2) := r_like_trans hC (r_rows (fun k hk hk2 => k1 k (by omega) (by omega) (by omega) (by omega)))
      refine r_S_like a1 hl1 (fun k hk => ?_) hB
      rw [hl, (g_kp_178 (i := 0) z8 hk).2.2, m7 k hk]
    · have hold : ∃ i, i < z2 ∧ (q2 + 8 - z2 + i) % 8 = ((q2 + 1) % 8 + 8 - min (z2 + 1) 8 + j) % 8 ∧ ((z2 < 8 ∧ i = j) ∨ (z2 = 8 ∧ i = j + 1)) := by
        by_cases e : z2 = 8
        · exact ⟨j + 1, by omega, by omega, Or.inr ⟨e, rfl⟩⟩
        · exact ⟨j, by omega, by omega, Or.inl ⟨by omega, rfl⟩⟩
      obtain ⟨i, hi, hsl, hij⟩ := hold
      have hne : ((q2 + 1) % 8 + 8 - min (z2 + 1) 8 + j) % 8 ≠ q2 := by omega
      rw [← hsl] at hne ⊢
      refine r_S_like (e6 i hi) (r_rows (fun k hk hk2 => ?_)) (fun k hk => ?_) hB
      · have hs8 : (q2 + 8 - z2 + i) % 8 < 8 := Nat.mod_lt _ (by omega)
        rw [k1 k (by omega) (by omega) (by omega) (by omega), hA k (by omega)]
      · rcases hij with ⟨u1, u2⟩ | ⟨u1, u2⟩
        · subst u2
          rw [(g_kp_178 z8 hk).1 hi u1, m8]
        · subst u2
          rw [(g_kp_178 z8 hk).2.1 u1 (by omega), m8]
/-- a text that can't be read -/
theorem e_err {l : Launch} {B : Nat} {d dp : xd} (hfl : l.stackTraces = false) (h : y_Z B d) (e9 : Nat) (hpar : ∀ G, x_M G l yX3_parse wsX3_parse 8 0 0 [.ref (x_b G + 168)] d (some (.int 0)) dp) (hout : ∀ k, k ≠ 168 → (k < 170 ∨ 172 < k) → dp k = d k) (hpos : dp 168 2 = nI e9)
    (hm : ∀ G : xG, ∃ F : xd, (∀ j, j ≠ 175 → j ≠ 182 → F j = x_p (x_p dp 168 1 0) 0 11 (nI e9) j) ∧ (∀ j, j ≠ 13 → j ≠ 14 → F 175 j = x_p (x_p dp 168 1 0) 0 11 (nI e9) 175 j) ∧ x_M G l yX12_execute wsX12_execute 7 0 0 [.ref (x_b G + 175)] (x_p (x_p dp 168 1 0) 0 11 (nI e9)) (some (.int 0)) (x_p (x_p (x_p (x_p (x_p F 175 13 (nI e9)) 175 14 1) 175 7 0) 175 8 (nI e9)) 175 12 1)) : y_S2 l B d yX11_execute wsX11_execute (fun G => [.ref (x_b G + 0)]) ["java/lang/IllegalArgumentException", "java/lang/IllegalStateException"] yX12_execute wsX12_execute (fun G => [.ref (x_b G + 175)]) := by
  refine ⟨1, 0, x_p (x_p dp 168 1 0) 0 11 (nI e9), by omega, ⟨10, Nat.le_refl _, Or.inr ⟨_, Nat.le_refl _, rfl, fun G => c_F_execute_2 l hfl G d dp (hpar G) e9 hpos⟩⟩, fun G => ?_⟩
  obtain ⟨F, f1, f2, f3⟩ := hm G
  refine ⟨0, _, 7, by omega, f3, x_p_at, fun q => by omega, ?_⟩
  have k1 : ∀ k, k ≠ 175 → k ≠ 182 → k ≠ 0 → k ≠ 168 → (k < 170 ∨ 172 < k) → x_p (x_p (x_p (x_p (x_p F 175 13 (nI e9)) 175 14 1) 175 7 0) 175 8 (nI e9)) 175 12 1 k = d k := fun k h1 h2 h3 h4 h5 => by
    rw [x_p_ne h1, x_p_ne h1, x_p_ne h1, x_p_ne h1, x_p_ne h1, f1 k h1 h2, x_p_ne h3, x_p_ne h4, hout k h4 h5]
  have k2 : ∀ j, j ≠ 13 → j ≠ 14 → j ≠ 7 → j ≠ 8 → j ≠ 12 → x_p (x_p (x_p (x_p (x_p F 175 13 (nI e9)) 175 14 1) 175 7 0) 175 8 (nI e9)) 175 12 1 175 j = d 175 j := fun j h1 h2 h3 h4 h5 => by
    rw [x_p_row h5, x_p_row h4, x_p_row h3, x_p_row h2, x_p_row h1, f2 j h1 h2, x_p_ne (by omega), x_p_ne (by omega), hout 175 (by omega) (by omega)]
  have k0 : ∀ j, j ≠ 11 → x_p (x_p (x_p (x_p (x_p F 175 13 (nI e9)) 175 14 1) 175 7 0) 175 8 (nI e9)) 175 12 1 0 j = d 0 j := fun j h1 => by
    rw [x_p_ne (by omega), x_p_ne (by omega), x_p_ne (by omega), x_p_ne (by omega), x_p_ne (by omega), f1 0 (by omega) (by omega), x_p_row h1, x_p_ne (by omega), hout 0 (by omega) (by omega)]
  refine y_Z_e h (by omega) (y_S1_c h.1 (fun k h1 h2 => k1 k (by omega) (by omega) (by omega) (by omega) (by omega)) (k1 176 (by omega) (by omega) (by omega) (by omega) (by omega)) (by omega)) (fun k hk => k1 k (by omega) (by omega) (by omega) (by omega) (by omega)) (k0 3 (by omega)) ?_ (fun j hj => k2 j (by omega) (by omega) (by omega) (by omega) (by omega)) ?_ ?_ ?_
  · rw [x_p_ne (by omega), x_p_ne (by omega), x_p_ne (by omega), x_p_ne (by omega), x_p_ne (by omega), f1 168 (by omega) (by omega), x_p_ne (by omega), x_p_at]
  · rw [x_p_row (by omega), x_p_row (by omega), x_p_at]
  · rw [x_p_row (by omega), x_p_at, x_p_ne (by omega), x_p_ne (by omega), x_p_ne (by omega), x_p_ne (by omega), x_p_ne (by omega), f1 0 (by omega) (by omega), x_p_at]
  · rw [k0 12 (by omega), k2 9 (by omega) (by omega) (by omega) (by omega) (by omega)]
    exact h.2.2.2.2.2.2
theorem x_wL_2 : ∀ v, v < 13 → 2 ≤ x_wL v := by decide +kernel
theorem tp_ce_full {tx : Nat → Nat} {L p : Nat} (hp : p = L) : tp_ce tx L p = L := by
  subst hp
  unfold tp_ce
  by_cases hv : tp_vb tx p p < 13
  · have h1 := tp_vb_in (Nat.le_refl p) hv rfl
    have h2 := x_wL_2 _ hv
    omega
  · rw [if_neg hv]
    have h1 := tp_mx_in (tx := tx) (Nat.le_refl p) 13
    omega
theorem tp_v1_lt (tx : Nat → Nat) (L p : Nat) : tp_v1 tx L p < 1000 := by
  unfold tp_v1
  split
  · exact tp_vv_lt _ _ _ _ (tp_m_le _ _).2
  · omega
theorem tp_v2_lt (tx : Nat → Nat) (L p : Nat) : tp_v2 tx L p < 1000 := by
  unfold tp_v2
  split
  · exact tp_vv_lt _ _ _ _ (tp_m_le _ _).2
  · omega
theorem t_rc_at {d : xd} {tx : Nat → Nat} {L p c : Nat} : t_rc d tx L p c 170 c = nI (tp_vb tx L p + 1) ∧ t_rc d tx L p c 171 c = nI (tp_v1 tx L p) ∧ t_rc d tx L p c 172 c = nI (tp_v2 tx L p) := by
  unfold t_rc t_rx t_w
  refine ⟨?_, ?_, ?_⟩
  · rw [x_p_ne (by omega), x_p_ne (by omega), x_p_at]
  · rw [x_p_ne (by omega), x_p_at]
    rfl
  · rw [x_p_at]
    rfl
theorem t_rc_row {d : xd} {tx : Nat → Nat} {L p c i : Nat} (h : i ≠ c) : t_rc d tx L p c 170 i = d 170 i ∧ t_rc d tx L p c 171 i = d 171 i ∧ t_rc d tx L p c 172 i = d 172 i := by
  unfold t_rc t_rx t_w
  refine ⟨?_, ?_, ?_⟩
  · rw [x_p_ne (by omega), x_p_ne (by omega), x_p_row h, x_p_ne (by omega)]
  · rw [x_p_ne (by omega), x_p_row h, x_p_ne (by omega), x_p_ne (by omega)]
  · rw [x_p_row h, x_p_ne (by omega), x_p_ne (by omega), x_p_ne (by omega)]
theorem t_pa_rows {d : xd} {tx : Nat → Nat} {L : Nat} : ∀ c i, i < c → t_pa d tx L c 170 i = nI (tp_vb tx L (tp_P tx L i) + 1) ∧ t_pa d tx L c 171 i = nI (tp_v1 tx L (tp_P tx L i)) ∧ t_pa d tx L c 172 i = nI (tp_v2 tx L (tp_P tx L i))
  | 0, i, h => absurd h (Nat.not_lt_zero i)
  | c + 1, i, h => by
    rw [t_pa, x_p_ne (by omega), x_p_ne (by omega), x_p_ne (by omega), x_p_ne (by omega), x_p_ne (by omega), x_p_ne (by omega)]
    by_cases e : i = c
    · subst e
      exact t_rc_at
    · obtain ⟨a1, a2, a3⟩ := t_rc_row (d := t_pa d tx L c) (tx := tx) (L := L) (p := tp_P tx L c) e
      rw [a1, a2, a3]
      exact t_pa_rows c i (by omega)
theorem t_ok_rows {d : xd} {tx : Nat → Nat} {L k9 : Nat} {v : Int32} : ∀ i, i ≤ k9 → x_p (t_rc (t_pa d tx L k9) tx L (tp_P tx L k9) k9) 168 3 v 170 i = nI (tp_vb tx L (tp_P tx L i) + 1) ∧ x_p (t_rc (t_pa d tx L k9) tx L (tp_P tx L k9) k9) 168 3 v 171 i = nI (tp_v1 tx L (tp_P tx L i)) ∧ x_p (t_rc (t_pa d tx L k9) tx L (tp_P tx L k9) k9) 168 3 v 172 i = nI (tp_v2 tx L (tp_P tx L i)) := by
  intro i hi
  rw [x_p_ne (by omega), x_p_ne (by omega), x_p_ne (by omega)]
  by_cases e : i = k9
  · subst e
    exact t_rc_at
  · obtain ⟨a1, a2, a3⟩ := t_rc_row (d := t_pa d tx L k9) (tx := tx) (L := L) (p := tp_P tx L k9) e
    rw [a1, a2, a3]
    exact t_pa_rows k9 i (by omega)
/-- what the model's reading gives, in the words of its execute -/
theorem m_facts {l : Launch} {G : xG} {d1 : xd} {tx : Nat → Nat} {L k9 : Nat} {Ew Fw : Nat → xd} (h7 : d1 175 7 = nI L) (htx : ∀ j, j < L → d1 180 j = nI (tx j)) (hgood : ∀ j, j < k9 → tp_co tx L (tp_P tx L j) ∧ tp_c tx L (tp_ce tx L (tp_P tx L j)) 59 = true) (eE : ∀ i, Ew (i + 1) = x_p (Fw i) 175 13 (nI (tp_ce tx L (tp_P tx L i) + 1)))
    (sp : ∀ i, i ≤ k9 → x_M G l yX12_parsesCommand wsX12_parsesCommand 5 0 0 [.ref (x_b G + 175), .int (nI (3 * i))] (Ew i) none (Fw i) ∧ tm_R tx L (tp_P tx L i) (3 * i) (Ew i) (Fw i) ∧ (∀ j, j ≠ 175 → j ≠ 182 → Fw i j = d1 j) ∧ (∀ j, j ≠ 13 → j ≠ 14 → Fw i 175 j = d1 175 j)) :
    (∀ i, i ≤ k9 → Fw i 175 13 = nI (tp_ce tx L (tp_P tx L i)) ∧ tp_ce tx L (tp_P tx L i) ≤ L ∧ Fw i 175 7 = nI L ∧ (∀ j, j < L → Fw i 180 j = nI (tx j))) ∧ (∀ i, i < k9 → Fw i 175 14 = 0 ∧ tp_c tx L (tp_ce tx L (tp_P tx L i)) 59 = true ∧ Ew (i + 1) = x_p (Fw i) 175 13 (nI (tp_ce tx L (tp_P tx L i) + 1))) := by
  refine ⟨fun i hi => ?_, fun i hi => ?_⟩
  · obtain ⟨s1, s2, s3, s4⟩ := sp i hi
    exact ⟨s2.1, tp_ce_in (tp_P_le i (fun j hj => hgood j (by omega))), (s4 7 (by omega) (by omega)).trans h7, fun j hj => by rw [s3 180 (by omega) (by omega)]; exact htx j hj⟩
  · obtain ⟨s1, s2, s3, s4⟩ := sp i (by omega)
    exact ⟨s2.2.1 (hgood i hi).1, (hgood i hi).2, eE i⟩
set_option maxHeartbeats 4000000 in
/-- a text that is read -/
theorem e_ok {l : Launch} {B : Nat} {d dp : xd} (hfl : l.stackTraces = false) (h : y_Z B d) (hB : B + 180 < 100000) (tx : Nat → Nat) (L : Nat) (hL : L ≤ 60) (hl7 : d 175 7 = nI L) (ht7 : ∀ j, j < L → tx j < 128) (ht0 : ∀ j, j < L → d 180 j = nI (tx j)) (k9 : Nat) (hk9 : k9 < 15) (hgood : ∀ j, j < k9 → tp_co tx L (tp_P tx L j) ∧ tp_c tx L (tp_ce tx L (tp_P tx L j)) 59 = true) (hco : tp_co tx L (tp_P tx L k9)) (hno : ¬ tp_c tx L (tp_ce tx L (tp_P tx L k9)) 59 = true) (hend : L ≤ tp_ce tx L (tp_P tx L k9))
    (hpar : ∀ G, x_M G l yX3_parse wsX3_parse 8 0 0 [.ref (x_b G + 168)] d (some (.int 1)) dp) (hout : ∀ k, k ≠ 168 → (k < 170 ∨ 172 < k) → dp k = d k) (h3 : dp 168 3 = nI (k9 + 1)) (hrows : ∀ i, i ≤ k9 → dp 170 i = nI (tp_vb tx L (tp_P tx L i) + 1) ∧ dp 171 i = nI (tp_v1 tx L (tp_P tx L i)) ∧ dp 172 i = nI (tp_v2 tx L (tp_P tx L i))) : y_S2 l B d yX11_execute wsX11_execute (fun G => [.ref (x_b G + 0)]) ["java/lang/IllegalArgumentException", "java/lang/IllegalStateException"] yX12_execute wsX12_execute (fun G => [.ref (x_b G + 175)]) := by
  obtain ⟨n, w, q, z, t, hq, q8, hz, z8, hc⟩ := y_open h
  have co : ∀ i, i ≤ k9 → tp_co tx L (tp_P tx L i) := fun i hi => by
    rcases Nat.lt_or_ge i k9 with y | y
    · exact (hgood i y).1
    · have e : i = k9 := by omega
      subst e
      exact hco
  -- the class's world before the first command
  obtain ⟨D0, hD0⟩ : ∃ D0, D0 = f_cps (x_p dp 168 1 0) 15 1 := ⟨_, rfl⟩
  have D0o : ∀ k, k < 16 ∨ 28 < k → k ≠ 168 → (k < 170 ∨ 172 < k) → D0 k = d k := fun k h1 h2 h4 => by
    rw [hD0, f_cps_out h1, x_p_ne h2, hout k h2 h4]
  have D0r : ∀ k, 170 ≤ k → k ≤ 172 → D0 k = dp k := fun k h1 h2 => by
    rw [hD0, f_cps_out (by omega), x_p_ne (by omega)]
  have D0t : ∀ j, j ≠ 1 → D0 168 j = dp 168 j := fun j h1 => by
    rw [hD0, f_cps_out (by omega), x_p_row h1]
  have D01 : D0 168 1 = 0 := by rw [hD0, f_cps_out (by omega), x_p_at]
  have D0l : r_like d 1 D0 15 := by
    rw [hD0]
    exact r_like_trans (r_rows (fun k h1 h2 => by rw [x_p_ne (by omega), hout k (by omega) (by omega)])) (r_copy (d := x_p dp 168 1 0) (o := 15) (o2 := 1) (by omega))
  have hs0 : r_S B D0 1 (d 176) := r_S_like h.1 (r_rows (fun k h1 h2 => D0o k (by omega) (by omega) (by omega))) (fun _ _ => rfl) (Nat.le_refl _)
  obtain ⟨Dw, zw, f9, d0, zz0, hf9, inv, st, fin⟩ := y_run (l := l) (fun i => tp_vb tx L (tp_P tx L i)) (fun i => tp_v1 tx L (tp_P tx L i)) (fun i => tp_v2 tx L (tp_P tx L i)) (k9 + 1) (by omega) (fun i hi => ⟨(co i (by omega)).1, tp_v1_lt _ _ _, tp_v2_lt _ _ _⟩) hs0 hB
  have hcm : ∀ i, i ≤ f9 → Dw i 168 3 = nI (k9 + 1) := fun i hi => by
    rw [(inv i hi).2 168 (by omega), D0t 3 (by omega)]
    exact h3
  have hvv : ∀ i, i ≤ f9 → i < k9 + 1 → tp_vb tx L (tp_P tx L i) < 13 ∧ Dw i 170 i = nI (tp_vb tx L (tp_P tx L i) + 1) ∧ Dw i 171 i = nI (tp_v1 tx L (tp_P tx L i)) ∧ Dw i 172 i = nI (tp_v2 tx L (tp_P tx L i)) := fun i hi hi2 => by
    rw [(inv i hi).2 170 (by omega), (inv i hi).2 171 (by omega), (inv i hi).2 172 (by omega), D0r 170 (by omega) (by omega), D0r 171 (by omega) (by omega), D0r 172 (by omega) (by omega)]
    exact ⟨(co i (by omega)).1, hrows i (by omega)⟩
  -- the model's side, over a world that differs from d by the class's doings
  have mod : ∀ (G : xG) (d1 : xd), (∀ k, k = 175 ∨ k = 176 ∨ k = 180 → d1 k = d k) → ∃ Ew Fw Gw : Nat → xd, ∃ Gp : xd, Ew 0 = x_p (x_p d1 175 13 0) 175 14 0 ∧ (∀ i, i ≤ k9 → x_M G l yX12_parsesCommand wsX12_parsesCommand 5 0 0 [.ref (x_b G + 175), .int (nI (3 * i))] (Ew i) none (Fw i)) ∧ ((∀ i, i ≤ k9 → Fw i 175 13 = nI (tp_ce tx L (tp_P tx L i)) ∧ tp_ce tx L (tp_P tx L i) ≤ L ∧ Fw i 175 7 = nI L ∧ (∀ j, j < L → Fw i 180 j = nI (tx j))) ∧ (∀ i, i < k9 → Fw i 175 14 = 0 ∧ tp_c tx L (tp_ce tx L (tp_P tx L i)) 59 = true ∧ Ew (i + 1) = x_p (Fw i) 175 13 (nI (tp_ce tx L (tp_P tx L i) + 1)))) ∧ Fw k9 175 14 = 0 ∧
      Gp = x_p (x_p (x_p (Fw k9) 175 13 (nI (tp_ce tx L (tp_P tx L k9)))) 175 14 0) 175 7 0 ∧ Gw 0 = g_bg Gp ∧ (∀ i, Gw (i + 1) = g_ok (Gw i) (zw (i + 1))) ∧ (∀ k, k ≠ 175 → k ≠ 182 → Gp k = d1 k) ∧ (∀ j, j ≠ 13 → j ≠ 14 → j ≠ 7 → Gp 175 j = d 175 j) ∧ Gp 175 7 = 0 ∧ (∀ i, (∀ k, k ≠ 175 → k ≠ 176 → Gw i k = g_bg Gp k) ∧ (∀ j, j ≠ 12 → Gw i 175 j = g_bg Gp 175 j) ∧ Gw i 176 = zw i) ∧ (∀ i, i ≤ k9 → y_me (Gw i) (zw i) (tp_vb tx L (tp_P tx L i)) (tp_v1 tx L (tp_P tx L i)) (tp_v2 tx L (tp_P tx L i)) i) := by
    intro G d1 hd1
    have h7 : d1 175 7 = nI L := by rw [hd1 175 (by omega)]; exact hl7
    have htx : ∀ j, j < L → d1 180 j = nI (tx j) := fun j hj => by rw [hd1 180 (by omega)]; exact ht0 j hj
    obtain ⟨Ew, Fw, e0, eE, sp, hist⟩ := m_read l G d1 tx L hL h7 htx ht7 k9 (by omega) hgood
    obtain ⟨s1, s2, s3, s4⟩ := sp k9 (Nat.le_refl _)
    obtain ⟨Gp, hGp⟩ : ∃ Gp, Gp = x_p (x_p (x_p (Fw k9) 175 13 (nI (tp_ce tx L (tp_P tx L k9)))) 175 14 0) 175 7 0 := ⟨_, rfl⟩
    have p1 : ∀ k, k ≠ 175 → k ≠ 182 → Gp k = d1 k := fun k h1 h2 => by rw [hGp, x_p_ne h1, x_p_ne h1, x_p_ne h1, s3 k h1 h2]
    have p2 : ∀ j, j ≠ 13 → j ≠ 14 → j ≠ 7 → Gp 175 j = d 175 j := fun j h1 h2 h4 => by rw [hGp, x_p_row h4, x_p_row h2, x_p_row h1, s4 j h1 h2, hd1 175 (by omega)]
    have p3 : Gp 175 7 = 0 := by rw [hGp, x_p_at]
    have p4 : Gp 182 = Fw k9 182 := by rw [hGp, x_p_ne (by omega), x_p_ne (by omega), x_p_ne (by omega)]
    obtain ⟨Gw, Gb, g0, gF, gE⟩ := o_seq (g_bg Gp) (fun _ (E : xd) => E) (fun i E => g_ok E (zw (i + 1)))
    have gS : ∀ i, Gw (i + 1) = g_ok (Gw i) (zw (i + 1)) := fun i => by rw [gE i, gF i]
    have fr : ∀ i, (∀ k, k ≠ 175 → k ≠ 176 → Gw i k = g_bg Gp k) ∧ (∀ j, j ≠ 12 → Gw i 175 j = g_bg Gp 175 j) ∧ Gw i 176 = zw i := by
      intro i
      induction i with
      | zero =>
        rw [g0, zz0]
        refine ⟨fun _ _ _ => rfl, fun _ _ => rfl, ?_⟩
        unfold g_bg
        rw [x_r_ne2 (by omega), p1 176 (by omega) (by omega), hd1 176 (by omega)]
      | succ i ih =>
        obtain ⟨i1, i2, i3⟩ := ih
        rw [gS i]
        exact ⟨fun k h1 h2 => by rw [g_ok_ne h1 h2]; exact i1 k h1 h2, fun j h1 => by rw [g_ok_row h1]; exact i2 j h1, g_ok_176⟩
    refine ⟨Ew, Fw, Gw, Gp, e0, fun i hi => (sp i hi).1, m_facts h7 htx hgood eE sp, s2.2.1 hco, hGp, g0, gS, p1, p2, p3, fr, fun i hi => ?_⟩
    obtain ⟨f1, f2, f3⟩ := fr i
    have e182 : Gw i 182 = Fw k9 182 := by
      rw [f1 182 (by omega) (by omega)]
      unfold g_bg
      rw [x_r_ne2 (by omega), p4]
    obtain ⟨-, ti, -, -⟩ := sp i hi
    obtain ⟨v1, v2, v3⟩ := ti.2.2.2.1 (co i hi)
    have hh := hist k9 (Nat.le_refl _) i hi
    refine ⟨f3, ?_, fun y => ?_, fun y => ?_⟩
    · rw [e182]
      exact (hh 0 (by omega)).trans v1
    · rw [e182]
      exact (hh 1 (by omega)).trans (v2 y)
    · rw [e182]
      exact (hh 2 (by omega)).trans (v3 y)
  rcases fin with hfin | ⟨hlt, hcb, hmb⟩
  · -- all of them
    subst hfin
    obtain ⟨dq, hdq⟩ : ∃ dq, dq = Dw (k9 + 1) := ⟨_, rfl⟩
    obtain ⟨i1, i2⟩ := inv (k9 + 1) (Nat.le_refl _)
    rw [← hdq] at i1 i2
    have dqo : ∀ k, (k = 0 ∨ (29 ≤ k ∧ k ≤ 156) ∨ (173 ≤ k ∨ k = 169)) → dq k = d k := fun k hk => by
      rw [i2 k (by omega), D0o k (by omega) (by omega) (by omega)]
    have hper : ∀ G, x_M G l yX11_performCommands wsX11_performCommands 7 0 0 [.ref (x_b G + 0)] D0 (some (.int (nI (k9 + 1)))) dq := fun G => by
      rw [hdq]
      exact c_F_performCommands_ok l G D0 Dw d0 (fun i => tp_vb tx L (tp_P tx L i)) (fun i => nI (tp_v1 tx L (tp_P tx L i))) (fun i => nI (tp_v2 tx L (tp_P tx L i))) (k9 + 1) (by omega) hcm hvv (fun i hi => ⟨(st i hi).1.1 G, (st i hi).1.2.1 G⟩)
    have hq2 : dq 43 1 = nI q := by rw [dqo 43 (by omega)]; exact hq
    have hz2 : dq 43 0 = nI z := by rw [dqo 43 (by omega)]; exact hz
    refine ⟨0, nI (k9 + 1), f_rem dq 15 q z, by omega, ⟨10, Nat.le_refl _, Or.inl ⟨rfl, fun G => c_F_execute l G d dp (hpar G) dq (k9 + 1) (k9 + 1) (by rw [← hD0]; exact hper G) (by rw [hdq]; exact hcm _ (Nat.le_refl _)) (by omega) (Nat.le_refl _) (by omega) q z hq2 hz2 q8 z8⟩⟩, fun G => ?_⟩
    have d1o : ∀ k, (k = 0 ∨ (29 ≤ k ∧ k ≤ 42) ∨ (173 ≤ k ∨ k = 169)) → f_rem dq 15 q z k = d k := fun k hk => by
      rw [f_rem_out (by omega) q8, dqo k (by omega)]
    obtain ⟨Ew, Fw, Gw, Gp, e0, hpc, ⟨hF, hgo⟩, hw9, hGp, g0, gS, p1, p2, p3, fr, hme⟩ := mod G (f_rem dq 15 q z) (fun k hk => d1o k (by omega))
    obtain ⟨rv, hrv⟩ : ∃ rv : Nat → Int32, ∀ i, i < k9 + 1 → x_M G l yX12_carriesOut wsX12_carriesOut 6 0 0 [.ref (x_b G + 175), .int (nI (3 * i))] (Gw i) (some (.int (rv i))) (Gw (i + 1)) := ⟨fun i => Classical.epsilon (fun r : Int32 => x_M G l yX12_carriesOut wsX12_carriesOut 6 0 0 [.ref (x_b G + 175), .int (nI (3 * i))] (Gw i) (some (.int r)) (Gw (i + 1))), fun i hi => Classical.epsilon_spec (p := fun r : Int32 => x_M G l yX12_carriesOut wsX12_carriesOut 6 0 0 [.ref (x_b G + 175), .int (nI (3 * i))] (Gw i) (some (.int r)) (Gw (i + 1))) (by
      rw [gS i]
      exact (st i hi).2 G (Gw i) (hme i (by omega)))⟩
    obtain ⟨f1, f2, f3⟩ := fr (k9 + 1)
    have hq9 : Gw (k9 + 1) 175 3 = nI z := by
      rw [f2 3 (by omega)]
      unfold g_bg
      rw [x_r_ne2 (by omega), p2 3 (by omega) (by omega) (by omega)]
      exact hc
    have e12 : x_p (Gw (k9 + 1)) 175 12 0 = g_ok (g_bg Gp) (zw (k9 + 1)) := by
      funext k
      by_cases hk : k = 175
      · subst hk
        funext j
        by_cases hj : j = 12
        · subst hj
          rw [x_p_at, g_ok_12]
        · rw [x_p_row hj, g_ok_row hj]
          exact f2 j hj
      · rw [x_p_ne hk]
        by_cases hk6 : k = 176
        · subst hk6
          rw [g_ok_176]
          exact f3
        · rw [g_ok_ne hk hk6]
          exact f1 k hk hk6
    have hm := c_M_execute l G (f_rem dq 15 q z) tx L hL ht7 Ew Fw (fun i => tp_ce tx L (tp_P tx L i)) k9 (by omega) e0 hpc hF hgo hw9 hno hend Gw (by rw [g0, hGp]) rv (fun i hi => ⟨hrv i hi, by rw [gS i]; exact g_ok_12⟩) z hq9 z8
    rw [e12] at hm
    refine ⟨_, _, 7, by omega, hm, y_op_12, fun _ => rfl, ?_⟩
    obtain ⟨d3, j1, j2, j3⟩ : ∃ d3 : xd, (∀ k, k ≠ 175 → k ≠ 182 → d3 k = D0 k) ∧ d3 175 = Gp 175 ∧ d3 182 = Gp 182 := ⟨fun k => if k = 175 ∨ k = 182 then Gp k else D0 k, fun k y1 y2 => if_neg (by omega), if_pos (Or.inl rfl), if_pos (Or.inr rfl)⟩
    have hz3 : y_Z B d3 := by
      refine y_Z_e h (Nat.le_refl _) ?_ (fun k hk => by rw [j1 k (by omega) (by omega), D0o k (by omega) (by omega) (by omega)]) (by rw [j1 0 (by omega) (by omega), D0o 0 (by omega) (by omega) (by omega)]) (by rw [j1 168 (by omega) (by omega)]; exact D01) (fun j hj => by rw [j2]; exact p2 j (by omega) (by omega) (by omega)) (by rw [j2]; exact p3) ?_ ?_
      · rw [j1 176 (by omega) (by omega), D0o 176 (by omega) (by omega) (by omega)]
        exact r_S_like hs0 (r_rows (fun k h1 h2 => j1 k (by omega) (by omega))) (fun _ _ => rfl) (Nat.le_refl _)
      · rw [j1 0 (by omega) (by omega), D0o 0 (by omega) (by omega) (by omega), j2, p2 8 (by omega) (by omega) (by omega)]
        exact h.2.2.2.2.2.1
      · rw [j1 0 (by omega) (by omega), D0o 0 (by omega) (by omega) (by omega), j2, p2 9 (by omega) (by omega) (by omega)]
        exact h.2.2.2.2.2.2
    have Gd : ∀ k, k ≠ 175 → k ≠ 182 → (k < 43 ∨ 157 ≤ k) → Gp k = dq k := fun k y1 y2 y3 => by rw [p1 k y1 y2, f_rem_out y3 q8]
    refine y_opx hz3 (by omega) (by rw [j1 43 (by omega) (by omega), D0o 43 (by omega) (by omega) (by omega)]; exact hq) q8 (by rw [j1 43 (by omega) (by omega), D0o 43 (by omega) (by omega) (by omega)]; exact hz) z8 ?_ (fun k hk => ?_) ?_ ?_ ?_
    · rw [Gd 0 (by omega) (by omega) (by omega), i2 0 (by omega), j1 0 (by omega) (by omega)]
    · by_cases y1 : k = 175
      · subst y1
        exact j2.symm
      · by_cases y2 : k = 182
        · subst y2
          exact j3.symm
        · rw [j1 k y1 y2, p1 k y1 y2]
          rcases Nat.lt_or_ge k 43 with y3 | y3
          · rw [f_rem_out (by omega) q8, i2 k (by omega)]
          · rcases Nat.lt_or_ge k 157 with y4 | y4
            · rw [f_rem_in (by omega), f_cps_out (by omega), i2 k (by omega)]
            · rw [f_rem_out (by omega) q8, i2 k (by omega)]
    · rw [p1 43 (by omega) (by omega)]
      exact f_rem_43 q8
    · exact r_like_trans (r_rows (d := d3) (d2 := d) (fun k h1 h2 => by rw [j1 k (by omega) (by omega), D0o k (by omega) (by omega) (by omega)])) (r_like_trans D0l (r_like_trans (r_rows (d := D0) (d2 := dq) (fun k h1 h2 => i2 k (by omega))) (r_like_trans (r_copy (d := dq) (o := 45 + 14 * q) (o2 := 15) (by omega)) (r_rows (fun k h1 h2 => by rw [p1 k (by omega) (by omega), f_rem_in (by omega)])))))
    · exact r_S_like i1 (r_rows (fun k h1 h2 => Gd k (by omega) (by omega) (by omega))) (fun _ _ => rfl) (by omega)
  · -- one of them can't be carried out
    obtain ⟨r4, hr4, hr0, hrb⟩ := hcb
    obtain ⟨dq, hdq⟩ : ∃ dq, dq = Dw f9 := ⟨_, rfl⟩
    obtain ⟨i1, i2⟩ := inv f9 (Nat.le_refl _)
    rw [← hdq] at i1 i2
    have hper : ∀ G, x_M G l yX11_performCommands wsX11_performCommands 7 0 0 [.ref (x_b G + 0)] D0 (some (.int (nI f9))) dq := fun G => by
      rw [hdq]
      exact c_F_performCommands_bad l G D0 f9 Dw d0 (fun i => tp_vb tx L (tp_P tx L i)) (fun i => nI (tp_v1 tx L (tp_P tx L i))) (fun i => nI (tp_v2 tx L (tp_P tx L i))) (k9 + 1) (by omega) hcm hvv (fun i hi => ⟨(st i hi).1.1 G, (st i hi).1.2.1 G⟩) hlt r4 hr4 hr0 (hrb G)
    refine ⟨2, 0, x_p (f_cps dq 1 15) 0 12 (nI f9), by omega, ⟨10, Nat.le_refl _, Or.inr ⟨_, by omega, rfl, fun G => c_F_execute_3 l hfl G d dp (hpar G) dq f9 (k9 + 1) (by rw [← hD0]; exact hper G) (by rw [hdq]; exact hcm _ (Nat.le_refl _)) (by omega) hlt⟩⟩, fun G => ?_⟩
    have d1o : ∀ k, k ≠ 0 → (15 ≤ k ∧ k ≤ 156) ∨ 168 ≤ k → x_p (f_cps dq 1 15) 0 12 (nI f9) k = D0 k := fun k y1 y2 => by
      rw [x_p_ne y1, f_cps_out (by omega), i2 k (by omega)]
    obtain ⟨Ew, Fw, Gw, Gp, e0, hpc, ⟨hF, hgo⟩, hw9, hGp, g0, gS, p1, p2, p3, fr, hme⟩ := mod G (x_p (f_cps dq 1 15) 0 12 (nI f9)) (fun k hk => by rw [d1o k (by omega) (by omega), D0o k (by omega) (by omega) (by omega)])
    obtain ⟨rv, hrv⟩ : ∃ rv : Nat → Int32, ∀ i, i < f9 → x_M G l yX12_carriesOut wsX12_carriesOut 6 0 0 [.ref (x_b G + 175), .int (nI (3 * i))] (Gw i) (some (.int (rv i))) (Gw (i + 1)) := ⟨fun i => Classical.epsilon (fun r : Int32 => x_M G l yX12_carriesOut wsX12_carriesOut 6 0 0 [.ref (x_b G + 175), .int (nI (3 * i))] (Gw i) (some (.int r)) (Gw (i + 1))), fun i hi => Classical.epsilon_spec (p := fun r : Int32 => x_M G l yX12_carriesOut wsX12_carriesOut 6 0 0 [.ref (x_b G + 175), .int (nI (3 * i))] (Gw i) (some (.int r)) (Gw (i + 1))) (by
      rw [gS i]
      exact (st i hi).2 G (Gw i) (hme i (by omega)))⟩
    obtain ⟨rb, xb, hxb, hbad⟩ := hmb G (Gw f9) (hme f9 (by omega))
    obtain ⟨f1, f2, f3⟩ := fr f9
    have hm := c_M_execute_f l G (x_p (f_cps dq 1 15) 0 12 (nI f9)) tx L hL ht7 Ew Fw (fun i => tp_ce tx L (tp_P tx L i)) k9 (by omega) e0 hpc hF hgo hw9 hno hend Gw (by rw [g0, hGp]) rv f9 hlt (fun i hi => ⟨hrv i hi, by rw [gS i]; exact g_ok_12⟩) rb (g_th (Gw f9) xb) hbad (by rw [g_th_at]; exact hxb)
    obtain ⟨d2, hd2⟩ : ∃ d2, d2 = g_kf (x_p (x_p (g_th (Gw f9) xb) 175 9 (nI f9)) 175 12 2) := ⟨_, rfl⟩
    rw [← hd2] at hm
    have b1 : ∀ k, k ≠ 177 → g_bg Gp k = Gp k := fun k y => by
      unfold g_bg
      rw [x_r_ne2 y]
    have q1 : ∀ k, k ≠ 175 → k ≠ 176 → k ≠ 177 → k ≠ 182 → d2 k = x_p (f_cps dq 1 15) 0 12 (nI f9) k := fun k y1 y2 y3 y4 => by
      rw [hd2]
      unfold g_kf
      rw [x_r_ne2 y2, x_p_ne y1, x_p_ne y1, g_th_ne y1, f1 k y1 y2, b1 k y3, p1 k y1 y4]
    have q2 : ∀ j, j ≠ 9 → j ≠ 12 → d2 175 j = Gp 175 j := fun j y1 y2 => by
      rw [hd2]
      unfold g_kf
      rw [x_r_ne2 (by omega), x_p_row y2, x_p_row y1, g_th_row y2, f2 j y2, b1 175 (by omega)]
    have q6 : ∀ k, k < 80 → d2 176 k = d 176 k := fun k hk => by
      rw [hd2]
      unfold g_kf
      rw [x_r_same, pk_cpy_in (by omega) (by omega), x_p_ne (by omega), x_p_ne (by omega), g_th_ne (by omega), f1 177 (by omega) (by omega)]
      unfold g_bg
      rw [x_r_same, pk_cpy_in (by omega) (by omega), p1 176 (by omega) (by omega), d1o 176 (by omega) (by omega), D0o 176 (by omega) (by omega) (by omega)]
      exact congrArg (d 176) (by omega)
    have q0 : ∀ j, j ≠ 12 → d2 0 j = d 0 j := fun j y => by
      rw [q1 0 (by omega) (by omega) (by omega) (by omega), x_p_row y, f_cps_out (by omega), i2 0 (by omega), D0o 0 (by omega) (by omega) (by omega)]
    refine ⟨0, d2, 7, by omega, hm, ?_, fun y => by omega, y_Z_e h (by omega) (r_S_like h.1 (r_like_trans D0l (r_like_trans (r_rows (d := D0) (d2 := dq) (fun k h1 h2 => i2 k (by omega))) (r_like_trans (r_copy (d := dq) (o := 1) (o2 := 15) (by omega)) (r_rows (fun k h1 h2 => by rw [q1 k (by omega) (by omega) (by omega) (by omega), x_p_ne (by omega)]))))) q6 (by omega)) (fun k hk => by rw [q1 k (by omega) (by omega) (by omega) (by omega), d1o k (by omega) (by omega), D0o k (by omega) (by omega) (by omega)]) (q0 3 (by omega)) ?_ (fun j hj => by rw [q2 j (by omega) (by omega)]; exact p2 j (by omega) (by omega) (by omega)) ?_ ?_ ?_⟩
    · rw [hd2]
      unfold g_kf
      rw [x_r_ne2 (by omega), x_p_at]
      rfl
    · rw [q1 168 (by omega) (by omega) (by omega) (by omega), d1o 168 (by omega) (by omega)]
      exact D01
    · rw [q2 7 (by omega) (by omega)]
      exact p3
    · rw [q0 11 (by omega), q2 8 (by omega) (by omega), p2 8 (by omega) (by omega) (by omega)]
      exact h.2.2.2.2.2.1
    · rw [q1 0 (by omega) (by omega) (by omega) (by omega), x_p_at, hd2]
      unfold g_kf
      rw [x_r_ne2 (by omega), x_p_row (by omega), x_p_at]
set_option maxHeartbeats 4000000 in
theorem s_execute {l : Launch} {B : Nat} {d : xd} (hfl : l.stackTraces = false) (h : y_Z B d) (hB : B + 180 < 100000) : y_S2 l B d yX11_execute wsX11_execute (fun G => [.ref (x_b G + 0)]) ["java/lang/IllegalArgumentException", "java/lang/IllegalStateException"] yX12_execute wsX12_execute (fun G => [.ref (x_b G + 175)]) := by
  obtain ⟨L, tx, hL, hl1, hl7, htx⟩ := h.2.2.2.1
  have ht7 : ∀ j, j < L → tx j < 128 := fun j hj => by have := (htx j hj).2.2.2; omega
  have ht9 : ∀ j, j < L → d 169 j = nI (tx j) := fun j hj => (htx j hj).1
  have ht0 : ∀ j, j < L → d 180 j = nI (tx j) := fun j hj => (htx j hj).2.1
  have hno16 : ¬ ∀ j, j < 16 → tp_co tx L (tp_P tx L j) ∧ tp_c tx L (tp_ce tx L (tp_P tx L j)) 59 = true := fun hg => by
    have h1 := tp_P_le 16 hg
    have h2 := tp_P_ge (L := L) 16 (fun j hj => (hg j hj).1)
    omega
  obtain ⟨k9, hk16, hgood, hbad⟩ := o_least _ 16 hno16
  have hP : tp_P tx L k9 ≤ L := tp_P_le k9 hgood
  have hPg := tp_P_ge (L := L) k9 (fun j hj => (hgood j hj).1)
  by_cases hco : tp_co tx L (tp_P tx L k9)
  · have h3 := tp_ce_ge hco
    have h4 := tp_ce_in (tx := tx) hP
    have hk9 : k9 < 15 := by omega
    have hno : ¬ tp_c tx L (tp_ce tx L (tp_P tx L k9)) 59 = true := fun y => hbad ⟨hco, y⟩
    have hout : ∀ k, k ≠ 168 → (k < 170 ∨ 172 < k) → x_p (t_rc (t_pa d tx L k9) tx L (tp_P tx L k9) k9) 168 3 (nI (k9 + 1)) k = d k := fun k h1 h2 => (x_p_ne h1).trans ((t_rx_out h1 h2).trans (t_pa_out h1 h2 k9))
    by_cases hlt : tp_ce tx L (tp_P tx L k9) < L
    · refine e_err hfl h (tp_ce tx L (tp_P tx L k9)) (fun G => c_T_parse_bad2 l G d tx L hL hl1 ht9 ht7 k9 hgood hk9 hco hlt hno) hout (by rw [x_p_row (by omega)]; exact t_rc_2 hco) (fun G => ?_)
      obtain ⟨d1, hd1⟩ : ∃ d1, d1 = x_p (x_p (x_p (t_rc (t_pa d tx L k9) tx L (tp_P tx L k9) k9) 168 3 (nI (k9 + 1))) 168 1 0) 0 11 (nI (tp_ce tx L (tp_P tx L k9))) := ⟨_, rfl⟩
      rw [← hd1]
      have hd : ∀ k, k = 175 ∨ k = 180 → d1 k = d k := fun k hk => by rw [hd1, x_p_ne (by omega), x_p_ne (by omega), hout k (by omega) (by omega)]
      obtain ⟨Ew, Fw, e0, eE, sp, -⟩ := m_read l G d1 tx L hL (by rw [hd 175 (by omega)]; exact hl7) (fun j hj => by rw [hd 180 (by omega)]; exact ht0 j hj) ht7 k9 (by omega) hgood
      obtain ⟨hF, hgo⟩ := m_facts (by rw [hd 175 (by omega)]; exact hl7) (fun j hj => by rw [hd 180 (by omega)]; exact ht0 j hj) hgood eE sp
      obtain ⟨s1, s2, s3, s4⟩ := sp k9 (Nat.le_refl _)
      exact ⟨Fw k9, s3, s4, c_M_execute_b2 l G d1 tx L hL ht7 Ew Fw (fun i => tp_ce tx L (tp_P tx L i)) k9 (by omega) e0 (fun i hi => (sp i hi).1) hF hgo (s2.2.1 hco) hno hlt⟩
    · exact e_ok hfl h hB tx L hL hl7 ht7 ht0 k9 hk9 hgood hco hno (by omega) (fun G => c_T_parse_ok l G d tx L hL hl1 ht9 ht7 k9 hgood hk9 hco (by omega)) hout x_p_at t_ok_rows
  · have model : ∀ dp : xd, (∀ k, k ≠ 168 → (k < 170 ∨ 172 < k) → dp k = d k) → ∀ G : xG, ∃ F : xd, (∀ j, j ≠ 175 → j ≠ 182 → F j = x_p (x_p dp 168 1 0) 0 11 (nI (tp_ce tx L (tp_P tx L k9))) j) ∧ (∀ j, j ≠ 13 → j ≠ 14 → F 175 j = x_p (x_p dp 168 1 0) 0 11 (nI (tp_ce tx L (tp_P tx L k9))) 175 j) ∧ x_M G l yX12_execute wsX12_execute 7 0 0 [.ref (x_b G + 175)] (x_p (x_p dp 168 1 0) 0 11 (nI (tp_ce tx L (tp_P tx L k9)))) (some (.int 0)) (x_p (x_p (x_p (x_p (x_p F 175 13 (nI (tp_ce tx L (tp_P tx L k9)))) 175 14 1) 175 7 0) 175 8 (nI (tp_ce tx L (tp_P tx L k9)))) 175 12 1) := by
      intro dp hout G
      obtain ⟨d1, hd1⟩ : ∃ d1, d1 = x_p (x_p dp 168 1 0) 0 11 (nI (tp_ce tx L (tp_P tx L k9))) := ⟨_, rfl⟩
      rw [← hd1]
      have hd : ∀ k, k = 175 ∨ k = 180 → d1 k = d k := fun k hk => by rw [hd1, x_p_ne (by omega), x_p_ne (by omega), hout k (by omega) (by omega)]
      obtain ⟨Ew, Fw, e0, eE, sp, -⟩ := m_read l G d1 tx L hL (by rw [hd 175 (by omega)]; exact hl7) (fun j hj => by rw [hd 180 (by omega)]; exact ht0 j hj) ht7 k9 (by omega) hgood
      obtain ⟨hF, hgo⟩ := m_facts (by rw [hd 175 (by omega)]; exact hl7) (fun j hj => by rw [hd 180 (by omega)]; exact ht0 j hj) hgood eE sp
      obtain ⟨s1, s2, s3, s4⟩ := sp k9 (Nat.le_refl _)
      exact ⟨Fw k9, s3, s4, c_M_execute_b1 l G d1 tx L hL ht7 Ew Fw (fun i => tp_ce tx L (tp_P tx L i)) k9 (by omega) e0 (fun i hi => (sp i hi).1) hF hgo (s2.2.2.1 hco)⟩
    by_cases hk9 : k9 < 15
    · have hout : ∀ k, k ≠ 168 → (k < 170 ∨ 172 < k) → t_rf (t_pa d tx L k9) tx L (tp_P tx L k9) k9 k = d k := fun k h1 h2 => (tp_rf_out h1 h2).trans (t_pa_out h1 h2 k9)
      exact e_err hfl h (tp_ce tx L (tp_P tx L k9)) (fun G => c_T_parse_bad1 l G d tx L hL hl1 ht9 ht7 k9 hgood hk9 hco) hout (tp_rf_2 hco) (model _ hout)
    · have e15 : k9 = 15 := by omega
      subst e15
      have hout : ∀ k, k ≠ 168 → (k < 170 ∨ 172 < k) → t_pa d tx L 15 k = d k := fun k h1 h2 => t_pa_out h1 h2 15
      have hfull : tp_P tx L 15 = L := by omega
      exact e_err hfl h (tp_ce tx L (tp_P tx L 15)) (fun G => c_T_parse_full l G d tx L hL hl1 ht9 ht7 hgood) hout (by rw [tp_ce_full hfull]; exact (t_pa_2 15).trans (by rw [hfull])) (model _ hout)
