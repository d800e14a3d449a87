/-! a night -/
def r_W (d : xd) (o n q i : Nat) : Prop := n ≤ 8 ∧ q ≤ 6 ∧
  (∀ i, i < n → (∃ a, a < 4 ∧ d (o + 2) i = nI a) ∧ (∃ a, 1 ≤ a ∧ a ≤ 9 ∧ d (o + 3) i = nI a) ∧ (∃ a, 1 ≤ a ∧ a ≤ 5 ∧ d (o + 4) i = nI a) ∧ (∃ a, a ≤ 60 ∧ d (o + 6) i = nI a) ∧ (∃ a, a ≤ 9 ∧ d (o + 7) i = nI a)) ∧
  (∀ k, k < q → (d (o + 10) k = -1 ∨ ∃ w, w < n ∧ d (o + 10) k = nI w) ∧ (∃ a, a ≤ 2 ∧ d (o + 11) k = nI a ∧ (i ≤ k → a ≤ 1)) ∧ (∃ a, a ≤ 3 ∧ d (o + 12) k = nI a)) ∧
  (∃ a, a ≤ 99 ∧ d (o + 13) 1 = nI a)
theorem t_rdy {d : xd} {o n q i : Nat} {z : Nat → Int32} (e : r_E d o z n q) (v : r_V d o n q) (hi : i < n) : f_rdy d o i = g_rdy z i := by
  obtain ⟨a2, a3, a4, a5, a6, a7, a8⟩ := e.2.2.2.2.1 i hi
  obtain ⟨-, -, -, -, w, w1, w2⟩ := v.2.2.1 i hi
  unfold f_rdy g_rdy
  rw [a4, a6]
  have h7 : (1 : Int32) ≤ d (o + 7) i ↔ 0 < z (46 + i) := by
    rw [← a7, w2, show (1 : Int32) = nI 1 from rfl, show (0 : Int32) = nI 0 from rfl, nI_leI (by omega) (by omega), nI_ltI (by omega) (by omega)]
    omega
  have h5 : ¬ x_bz (d (o + 5) i) = 0 ↔ z (30 + i) = 0 := by
    rcases a5 with ⟨p, p2⟩ | ⟨p, p2⟩
    · exact ⟨fun _ => p2, fun _ => p⟩
    · exact ⟨fun q => absurd p q, fun q => by rw [p2] at q; exact absurd q (by decide)⟩
  exact decide_eq_decide.mpr (and_congr h5 (and_congr Iff.rfl h7))
theorem f_ob_is {d : xd} {o : Nat} : ∀ n, f_ob d o n = d (o + 13) 5 + (f_sum (d (o + 6)) n - f_sum (f_nO d o) n)
  | 0 => by rw [f_ob, f_sum, f_sum]; grind
  | n + 1 => by
    rw [f_ob, f_ob_is n, f_sum, f_sum]
    unfold f_nO
    by_cases h : f_rdy d o n = true
    · rw [if_pos h, if_pos h]
      grind
    · rw [if_neg h, if_neg h]
      grind
theorem f_wb_is {d : xd} {o : Nat} : ∀ n, f_wb d o n = d (o + 13) 8 + (f_sum (d (o + 7)) n - f_sum (f_nW d o) n)
  | 0 => by rw [f_wb, f_sum, f_sum]; grind
  | n + 1 => by
    rw [f_wb, f_wb_is n, f_sum, f_sum]
    unfold f_nW
    by_cases h : f_rdy d o n = true
    · rw [if_pos h, if_pos h]
      grind
    · rw [if_neg h, if_neg h]
      grind
theorem f_brn_6 {d : xd} {o n j : Nat} (ho : 1 ≤ o ∧ o + 14 ≤ 157) (hj : j < n) : f_brn d o n (o + 6) j = f_nO d o j := by
  unfold f_brn f_fill
  rw [x_p_ne (by omega), x_p_ne (by omega), x_r_ne2 (by omega), x_r_same, if_pos hj]
theorem f_brn_7 {d : xd} {o n j : Nat} (ho : 1 ≤ o ∧ o + 14 ≤ 157) (hj : j < n) : f_brn d o n (o + 7) j = f_nW d o j := by
  unfold f_brn f_fill
  rw [x_p_ne (by omega), x_p_ne (by omega), x_r_same, if_pos hj]
theorem f_brn_158 {d : xd} {o n j : Nat} (ho : 1 ≤ o ∧ o + 14 ≤ 157) (hj : j < n) : f_brn d o n 158 j = x_bi (f_rdy d o j = true) := by
  unfold f_brn f_fill f_nB
  rw [x_p_ne (by omega), x_p_ne (by omega), x_r_ne2 (by omega), x_r_ne2 (by omega), x_r_same, if_pos hj]
theorem f_brn_13 {d : xd} {o n j : Nat} (ho : 1 ≤ o ∧ o + 14 ≤ 157) : f_brn d o n (o + 13) j = if j = 8 then f_wb d o n else if j = 5 then f_ob d o n else d (o + 13) j := by
  unfold f_brn
  rw [x_prow, x_prow, x_r_ne2 (by omega), x_r_ne2 (by omega), x_r_ne2 (by omega)]
  rfl
/-- the first step -/
theorem t_brn {B : Nat} {d : xd} {o n q : Nat} {z : Nat → Int32} (h : r_T B d o z n q) (ho : 1 ≤ o ∧ o + 14 ≤ 157) :
    r_E (f_brn d o n) o (g_n1 z (g_rdy z) n) n q ∧ r_W (f_brn d o n) o n q 0 ∧ r_M (f_brn d o n) o n B ∧ f_bal (f_brn d o n) o n ∧ (∀ j, j < n → f_brn d o n 158 j = x_bi (g_rdy z j = true)) ∧ f_cb d o n = g_cn (g_rdy z) n := by
  obtain ⟨e, v, m9, bl⟩ := h
  have hr : ∀ i, i < n → f_rdy d o i = g_rdy z i := fun i hi => t_rdy e v hi
  have hn := v.1
  have Y : ∀ k, k ≠ 158 → k ≠ o + 6 → k ≠ o + 7 → k ≠ o + 13 → f_brn d o n k = d k := fun k a b c d => f_brn_out a b c d
  have g : ∀ j, j < 38 ∨ 38 + n ≤ j → j < 46 ∨ 46 + n ≤ j → g_n1 z (g_rdy z) n j = z j := fun j a b => g_n1_out a b
  obtain ⟨e1, e2, e3, e4, e5, e6, e70, e71, e72, e73⟩ := e
  obtain ⟨v1, v2, v3, v4, v5⟩ := v
  refine ⟨⟨?_, ?_, ?_, ?_, fun i hi => ?_, fun k hk => ?_, ?_⟩, ⟨v1, v2, fun i hi => ?_, fun k hk => ?_, ?_⟩, ?_, ?_, fun j hj => ?_, ?_⟩
  · rw [Y _ (by omega) (by omega) (by omega) (by omega)]; exact e1
  · rw [g _ (by omega) (by omega)]; exact e2
  · rw [Y _ (by omega) (by omega) (by omega) (by omega)]; exact e3
  · rw [g _ (by omega) (by omega)]; exact e4
  · obtain ⟨a2, a3, a4, a5, a6, a7, a8⟩ := e5 i hi
    refine ⟨?_, ?_, ?_, ?_, ?_, ?_, ?_⟩
    · rw [Y _ (by omega) (by omega) (by omega) (by omega), g _ (by omega) (by omega)]; exact a2
    · rw [Y _ (by omega) (by omega) (by omega) (by omega), g _ (by omega) (by omega)]; exact a3
    · rw [Y _ (by omega) (by omega) (by omega) (by omega), g _ (by omega) (by omega)]; exact a4
    · rw [Y _ (by omega) (by omega) (by omega) (by omega), g _ (by omega) (by omega)]; exact a5
    · rw [f_brn_6 ho hi]
      unfold f_nO g_n1
      rw [if_pos (show 38 ≤ 38 + i ∧ 38 + i < 38 + n by omega), show 38 + i - 38 = i by omega, hr i hi, a6, a4]
    · rw [f_brn_7 ho hi]
      unfold f_nW g_n1
      rw [if_neg (show ¬ (38 ≤ 46 + i ∧ 46 + i < 38 + n) by omega), if_pos (show 46 ≤ 46 + i ∧ 46 + i < 46 + n by omega), show 46 + i - 46 = i by omega, hr i hi, a7]
    · rw [Y _ (by omega) (by omega) (by omega) (by omega), g _ (by omega) (by omega)]; exact a8
  · rw [Y _ (by omega) (by omega) (by omega) (by omega), Y _ (by omega) (by omega) (by omega) (by omega), Y _ (by omega) (by omega) (by omega) (by omega), g _ (by omega) (by omega), g _ (by omega) (by omega), g _ (by omega) (by omega)]
    exact e6 k hk
  · rw [f_brn_13 ho, f_brn_13 ho, f_brn_13 ho, f_brn_13 ho, g _ (by omega) (by omega), g _ (by omega) (by omega), g _ (by omega) (by omega), g _ (by omega) (by omega)]
    exact ⟨e70, e71, e72, e73⟩
  · obtain ⟨a2, a3, ⟨b, b1, b2, b3⟩, ⟨x, x1, x2⟩, ⟨w, w1, w2⟩⟩ := v3 i hi
    rw [Y (o + 2) (by omega) (by omega) (by omega) (by omega), Y (o + 3) (by omega) (by omega) (by omega) (by omega), Y (o + 4) (by omega) (by omega) (by omega) (by omega), f_brn_6 ho hi, f_brn_7 ho hi]
    refine ⟨a2, a3, ⟨b, b1, b2, b3⟩, ?_, ?_⟩
    · unfold f_nO
      by_cases y : f_rdy d o i = true
      · rw [if_pos y, x2, b3]
        have y2 := (of_decide_eq_true y).2.1
        rw [x2, b3] at y2
        have y3 := (nI_leI (by omega) (by omega)).mp y2
        exact ⟨x - b, by omega, pk_sub y3⟩
      · rw [if_neg y]; exact ⟨x, x1, x2⟩
    · unfold f_nW
      by_cases y : f_rdy d o i = true
      · rw [if_pos y, w2]
        have y2 := (of_decide_eq_true y).2.2
        rw [w2] at y2
        have y3 := (nI_leI (a := 1) (by omega) (by omega)).mp y2
        exact ⟨w - 1, by omega, pk_sub (b := 1) y3⟩
      · rw [if_neg y]; exact ⟨w, w1, w2⟩
  · rw [Y _ (by omega) (by omega) (by omega) (by omega), Y _ (by omega) (by omega) (by omega) (by omega), Y _ (by omega) (by omega) (by omega) (by omega)]
    obtain ⟨c1, c2, c3⟩ := v4 k hk
    refine ⟨c1, ?_, c3⟩
    rcases c2 with c2 | c2
    · exact ⟨0, by omega, c2, fun _ => by omega⟩
    · exact ⟨1, by omega, c2, fun _ => by omega⟩
  · rw [f_brn_13 ho]; exact v5
  · exact m_cong m9 (fun i hi => by rw [Y _ (by omega) (by omega) (by omega) (by omega)]) (by rw [f_brn_13 ho]; rfl) (Nat.le_refl B)
  · obtain ⟨b1, b2, b3⟩ := bl
    unfold f_bal
    rw [f_sum_cong (fun j hj => f_brn_6 ho hj), f_sum_cong (fun j hj => f_brn_7 ho hj), Y (o + 8) (by omega) (by omega) (by omega) (by omega)]
    simp only [f_brn_13 ho, f_ob_is, f_wb_is]
    simp
    refine ⟨?_, ?_, b3⟩
    · grind
    · grind
  · rw [f_brn_158 ho hj, hr j hj]
  · have q : ∀ m, m ≤ n → f_cb d o m = g_cn (g_rdy z) m := by
      intro m
      induction m with
      | zero => exact fun _ => rfl
      | succ m ih => intro hm; rw [f_cb, g_cn, hr m (by omega), ih (by omega)]
    exact q n (Nat.le_refl n)
/-- the second step, one moth -/
theorem t_m1 {B : Nat} {D : xd} {o n q i : Nat} {Z z : Nat → Int32} {b : Nat → Bool} (e : r_E D o Z n q) (w9 : r_W D o n q i) (m9 : r_M D o n B) (bl : f_bal D o n) (hi : i < q) (hz : Z (62 + i) = z (62 + i)) (hb : ∀ j, j < n → D 158 j = x_bi (b j = true)) (ho : o + 14 ≤ 157) :
    r_E (f_m1 D o i) o (g_act Z i (z (62 + i) - 1).toNatClampNeg (g_at z b i)) n q ∧ r_W (f_m1 D o i) o n q (i + 1) ∧ r_M (f_m1 D o i) o n B ∧ f_bal (f_m1 D o i) o n ∧ f_m1 D o i 158 = D 158 ∧ (∀ k, k < q → g_act Z i (z (62 + i) - 1).toNatClampNeg (g_at z b i) (62 + k) = Z (62 + k)) := by
  have hn := w9.1
  have hq := w9.2.1
  obtain ⟨a10, a11, a12⟩ := e.2.2.2.2.2.1 i hi
  obtain ⟨c1, ⟨s, s1, s2, s3⟩, ⟨t, t1, t2⟩⟩ := w9.2.2.2.1 i hi
  have hs := s3 (Nat.le_refl i)
  have hD1 : D (o + 1) 0 = nI n := e.1
  rw [← hz, ← a10]
  have hat : f_at D o i = g_at z b i := by
    unfold f_at g_at
    rw [← hz, ← a10, hD1]
    rcases c1 with c1 | ⟨w, hw, c1⟩
    · rw [c1]
      have h1 : ¬ (0 : Int32) ≤ -1 := by decide
      rw [decide_eq_false (fun y => h1 y.1.1), decide_eq_false h1]
      rfl
    · rw [c1, nI_clamp (by omega), hb w hw]
      have h1 := x_in0 hw (show n < 1000 by omega)
      rw [decide_eq_true h1.1]
      cases hbw : b w with
      | true => exact decide_eq_true ⟨h1, by rw [x_bi_t rfl]; decide⟩
      | false => exact decide_eq_false (fun y => y.2 (by rw [x_bi_f (by simp)]; decide))
  have hW : r_W D o n q (i + 1) := ⟨hn, hq, w9.2.2.1, fun k hk => by
    obtain ⟨x1, ⟨y, y1, y2, y3⟩, x3⟩ := w9.2.2.2.1 k hk
    exact ⟨x1, ⟨y, y1, y2, fun q => y3 (by omega)⟩, x3⟩, w9.2.2.2.2⟩
  have h012 : (0 < D (o + 12) i) ↔ ¬ Z (74 + i) = 0 := by
    rw [← a12, t2, show (0 : Int32) = nI 0 from rfl, nI_ltI (by omega) (by omega), nI_eq (by omega) (by omega)]
    omega
  unfold f_m1 g_act
  rw [← hat]
  by_cases hl : 0 < D (o + 12) i
  · rw [if_pos hl, if_neg (h012.mp hl)]
    by_cases hA : f_at D o i = true
    · rw [if_pos hA, if_pos hA, ← a11]
      have o11 : ∀ k, k ≠ o + 11 → x_p D (o + 11) i (D (o + 11) i + 1) k = D k := fun k hk => x_p_ne hk
      refine ⟨e_m11 e hn hq (by omega), ⟨hn, hq, fun j hj => by rw [o11 _ (by omega), o11 _ (by omega), o11 _ (by omega), o11 _ (by omega), o11 _ (by omega)]; exact w9.2.2.1 j hj, fun k hk => ?_, by rw [o11 _ (by omega)]; exact w9.2.2.2.2⟩,
        m_cong m9 (fun _ _ => by rw [o11 _ (by omega)]) (by rw [o11 _ (by omega)]) (Nat.le_refl B), b_cong bl (fun _ _ => by rw [o11 _ (by omega)]) (fun _ _ => by rw [o11 _ (by omega)]) (fun _ _ => by rw [o11 _ (by omega)]) (fun _ _ => by rw [o11 _ (by omega)]), o11 _ (by omega), fun k hk => x_upd_ne (by omega)⟩
      obtain ⟨x1, x2, x3⟩ := hW.2.2.2.1 k hk
      rw [o11 (o + 10) (by omega), o11 (o + 12) (by omega)]
      refine ⟨x1, ?_, x3⟩
      by_cases y : k = i
      · subst y
        rw [x_p_at, s2, nI_1]
        exact ⟨s + 1, by omega, rfl, fun z => by omega⟩
      · rw [x_p_row y]; exact x2
    · rw [if_neg hA, if_neg hA, ← a12]
      have o12 : ∀ k, k ≠ o + 12 → x_p D (o + 12) i (D (o + 12) i - 1) k = D k := fun k hk => x_p_ne hk
      refine ⟨e_m12 e hn hq (by omega), ⟨hn, hq, fun j hj => by rw [o12 _ (by omega), o12 _ (by omega), o12 _ (by omega), o12 _ (by omega), o12 _ (by omega)]; exact w9.2.2.1 j hj, fun k hk => ?_, by rw [o12 _ (by omega)]; exact w9.2.2.2.2⟩,
        m_cong m9 (fun _ _ => by rw [o12 _ (by omega)]) (by rw [o12 _ (by omega)]) (Nat.le_refl B), b_cong bl (fun _ _ => by rw [o12 _ (by omega)]) (fun _ _ => by rw [o12 _ (by omega)]) (fun _ _ => by rw [o12 _ (by omega)]) (fun _ _ => by rw [o12 _ (by omega)]), o12 _ (by omega), fun k hk => x_upd_ne (by omega)⟩
      obtain ⟨x1, x2, x3⟩ := hW.2.2.2.1 k hk
      rw [o12 (o + 10) (by omega), o12 (o + 11) (by omega)]
      refine ⟨x1, x2, ?_⟩
      by_cases y : k = i
      · subst y
        rw [t2, show (0 : Int32) = nI 0 from rfl, nI_ltI (by omega) (by omega)] at hl
        rw [x_p_at, t2]
        exact ⟨t - 1, by omega, pk_sub (b := 1) (by omega)⟩
      · rw [x_p_row y]; exact x3
  · have hl2 : Z (74 + i) = 0 := Decidable.not_not.mp (fun y => hl (h012.mpr y))
    rw [if_neg hl, if_pos hl2]
    by_cases hA : f_at D o i = true
    · rw [if_pos hA]
      have hA2 := of_decide_eq_true hA
      have hcw : ∃ w, w < n ∧ D (o + 10) i = nI w := by
        rcases c1 with c1 | c1
        · rw [c1] at hA2; exact absurd hA2.1.1 (by decide)
        · exact c1
      obtain ⟨w, hw, hcw⟩ := hcw
      have hcl : (D (o + 10) i).toNatClampNeg = w := by rw [hcw, nI_clamp (by omega)]
      rw [hcl]
      have a6 := (e.2.2.2.2.1 w hw).2.2.2.2.1
      obtain ⟨-, -, -, ⟨x, x1, x2⟩, -⟩ := w9.2.2.1 w hw
      by_cases hO : D (o + 6) w ≤ 0
      · rw [if_pos hO, if_neg (fun y => absurd y.2 (by rw [← a6]; exact Int32.not_lt.mpr hO))]
        exact ⟨e, hW, m9, bl, rfl, fun _ _ => rfl⟩
      · have hO2 : 0 < Z (38 + w) := by rw [← a6]; exact Int32.not_le.mp hO
        have hx : 1 ≤ x := by
          have y := Int32.not_le.mp hO
          rw [x2, show (0 : Int32) = nI 0 from rfl, nI_ltI (by omega) (by omega)] at y
          omega
        rw [if_neg hO, if_pos ⟨hA, hO2⟩, ← a6]
        have oo : ∀ k, k ≠ o + 6 → k ≠ o + 13 → x_p (x_p D (o + 6) w (D (o + 6) w - 1)) (o + 13) 6 (D (o + 13) 6 + 1) k = D k := fun k h1 h2 => by rw [x_p_ne h2, x_p_ne h1]
        have o13 : ∀ j, x_p (x_p D (o + 6) w (D (o + 6) w - 1)) (o + 13) 6 (D (o + 13) 6 + 1) (o + 13) j = if j = 6 then D (o + 13) 6 + 1 else D (o + 13) j := fun j => by rw [x_prow, x_p_ne (by omega)]; rfl
        have o6 : x_p (x_p D (o + 6) w (D (o + 6) w - 1)) (o + 13) 6 (D (o + 13) 6 + 1) (o + 6) = upd (D (o + 6)) w (D (o + 6) w - 1) := by rw [x_p_ne (by omega), x_prow]
        refine ⟨e_bx (e_l6 e hn hq (by omega)) (by omega), ⟨hn, hq, fun j hj => ?_, fun k hk => ?_, ?_⟩, m_cong m9 (fun _ _ => by rw [oo _ (by omega) (by omega)]) (by rw [o13]; rfl) (Nat.le_refl B), ?_, oo _ (by omega) (by omega), fun k hk => x_upd_ne (by omega)⟩
        · rw [oo (o + 2) (by omega) (by omega), oo (o + 3) (by omega) (by omega), oo (o + 4) (by omega) (by omega), oo (o + 7) (by omega) (by omega), o6]
          obtain ⟨y2, y3, y4, y6, y7⟩ := w9.2.2.1 j hj
          refine ⟨y2, y3, y4, ?_, y7⟩
          by_cases y : j = w
          · subst y
            rw [x_upd_at, x2]
            exact ⟨x - 1, by omega, pk_sub (b := 1) hx⟩
          · rw [x_upd_ne y]; exact y6
        · rw [oo (o + 10) (by omega) (by omega), oo (o + 11) (by omega) (by omega), oo (o + 12) (by omega) (by omega)]
          exact hW.2.2.2.1 k hk
        · rw [o13]; exact w9.2.2.2.2
        · obtain ⟨b1, b2, b3⟩ := bl
          unfold f_bal
          rw [o6, f_sum_upd hw, oo (o + 7) (by omega) (by omega), oo (o + 8) (by omega) (by omega)]
          simp only [o13]
          simp
          refine ⟨?_, b2, b3⟩
          grind
    · rw [if_neg hA, if_neg (fun y => hA y.1)]
      exact ⟨e, hW, m9, bl, rfl, fun _ _ => rfl⟩
theorem t_ma {B : Nat} {D : xd} {o n q : Nat} {z : Nat → Int32} {b : Nat → Bool} (e : r_E D o z n q) (w9 : r_W D o n q 0) (m9 : r_M D o n B) (bl : f_bal D o n) (hb : ∀ j, j < n → D 158 j = x_bi (b j = true)) (ho : o + 14 ≤ 157) : ∀ i, i ≤ q →
    r_E (f_ma D o i) o (g_acts z b i) n q ∧ r_W (f_ma D o i) o n q i ∧ r_M (f_ma D o i) o n B ∧ f_bal (f_ma D o i) o n ∧ f_ma D o i 158 = D 158 ∧ (∀ k, k < q → g_acts z b i (62 + k) = z (62 + k))
  | 0, _ => ⟨e, w9, m9, bl, rfl, fun _ _ => rfl⟩
  | i + 1, hi => by
    obtain ⟨h1, h2, h3, h4, h5, h6⟩ := t_ma e w9 m9 bl hb ho i (by omega)
    obtain ⟨g1, g2, g3, g4, g5, g6⟩ := t_m1 (b := b) (z := z) h1 h2 h3 h4 hi (h6 i hi) (fun j hj => by rw [h5]; exact hb j hj) ho
    exact ⟨g1, g2, g3, g4, g5.trans h5, fun k hk => (g6 k hk).trans (h6 k hk)⟩

