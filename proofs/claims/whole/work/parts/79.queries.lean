/-! the questions -/
theorem s_d {l : Launch} {B : Nat} {d d1 d2 : xd} {y y2 : MethodName} {ws ws2 : List Cond} {lv lv2 : Nat} {r b : Int32} (hlv : lv ≤ 10) (hlv2 : lv2 ≤ 10) (hc : ∀ G, x_M G l y ws lv 0 0 [.ref (x_b G + 0)] d (some (.int r)) d1) (hm : ∀ G, x_M G l y2 ws2 lv2 0 0 [.ref (x_b G + 175)] d1 (some (.int b)) d2) (hrb : r = b) (hz : y_Z (B + 180) d2) : y_D l B d y ws y2 ws2 := by
  subst hrb
  exact ⟨r, d1, d2, ⟨lv, hlv, hc⟩, ⟨lv2, hlv2, hm⟩, hz⟩
theorem o_ion {x y : Int32} (h : (¬ x_bz x = 0 ∧ y = 0) ∨ (x_bz x = 0 ∧ y = 1)) : x_bz x = x_bi (y = 0) := by
  rcases h with ⟨h1, h2⟩ | ⟨h1, h2⟩
  · subst h2
    unfold x_bi
    rw [if_pos rfl]
    unfold x_bz at h1 ⊢
    split
    · rename_i e; exact absurd (if_pos e) h1
    · rfl
  · subst h2; unfold x_bi; rw [if_neg (by decide), h1]
theorem o_mem {x y : Int32} {a : Nat} (ha : a ≤ 3) (hx : x = nI a) (hy : x = y) : x_bi (¬ 0 < x) = x_bi (y = 0) := by
  subst hy
  rcases Nat.eq_zero_or_pos a with e | e
  · subst e
    rw [hx]
    rfl
  · have h1 : (0 : Int32) < x := by rw [hx]; exact nI_lt (a := 0) e (by omega)
    have h2 : ¬ x = 0 := by rw [hx]; exact nI_ne0 e (by omega)
    unfold x_bi
    rw [if_neg (fun q => q h1), if_neg h2]
theorem o_nf {d : xd} {i b o u : Nat} (hb : d 5 i = nI b) (ho : d 7 i = nI o) (hu : d 8 i = nI u) (b1 : 1 ≤ b) (b2 : b ≤ 5) (o1 : o ≤ 60) (u1 : u ≤ 9) : f_nf d 1 i = nI (min (o / b) u) := by
  unfold f_nf
  show (if d 5 i < 1 then 0 else if d 8 i < d 7 i / d 5 i then d 8 i else d 7 i / d 5 i) = _
  have hq : o / b ≤ 60 := Nat.le_trans (Nat.div_le_self o b) o1
  rw [hb, ho, hu, pk_div (by omega) b1 (by omega), if_neg (show ¬ nI b < 1 from nI_nlt (a := b) (b := 1) b1 (by omega))]
  by_cases h : u < o / b
  · rw [if_pos (nI_lt h (by omega)), Nat.min_eq_right (by omega)]
  · rw [if_neg (nI_nlt (by omega) (by omega)), Nat.min_eq_left (by omega)]
theorem o_las {z : Nat → Int32} {i b o u : Nat} (hb : z (22 + i) = nI b) (ho : z (38 + i) = nI o) (hu : z (46 + i) = nI u) (b1 : 1 ≤ b) (b2 : b ≤ 5) (o1 : o ≤ 60) (u1 : u ≤ 9) : g_las z i = nI (min (o / b) u) := by
  unfold g_las
  have hq : o / b ≤ 60 := Nat.le_trans (Nat.div_le_self o b) o1
  rw [hb, ho, hu, pk_div (by omega) b1 (by omega)]
  by_cases h : o / b < u
  · rw [if_pos (nI_lt h (by omega)), Nat.min_eq_left (by omega)]
  · rw [if_neg (nI_nlt (by omega) (by omega)), Nat.min_eq_right (by omega)]
theorem o_glow {B : Nat} {d : xd} {n w : Nat} {z : Nat → Int32} (t : r_T B d 1 z n w) (x : Int32) : ∀ m, m ≤ n → f_glow d 1 x m = g_glow z x m
  | 0, _ => rfl
  | m + 1, hm => by
    obtain ⟨a1, a2, a3, -⟩ := t.1.2.2.2.2.1 m (by omega)
    rw [f_glow, g_glow, o_glow t x m (by omega), t_rdy t.1 t.2.1 (by omega), a1, a3]
    split
    · rfl
    · rw [Int32.add_zero]
theorem o_bs (f : Int32 → Int32) : ∀ k, f_bs f k = g_bs f k
  | 0 => rfl
  | k + 1 => by rw [f_bs, g_bs, o_bs f k]
theorem o_car5 {z : Nat → Int32} {n : Nat} {sh : Nat → Nat} (hs : ∀ j, j < n → z (14 + j) = nI (sh j)) (hs9 : ∀ j, j < n → sh j ≤ 9) (hS : 1 ≤ f_sn sh n) (h8 : n ≤ 8) (hb : ∀ j, j < n → ∃ b, b ≤ 5 ∧ z (22 + j) = nI b) : g_car z n (nI (4 + 1)) = true := by
  have h1 : ∀ k, k ≤ n → f_sum (g_row z 14) k = nI (f_sn sh k) := by
    intro k hk
    induction k with
    | zero => rfl
    | succ k ih => rw [f_sum, f_sn, ih (by omega), show g_row z 14 k = z (14 + k) from rfl, hs k (by omega), nI_add]
  have h2 : ∀ k, k ≤ n → g_vot z (nI (4 + 1)) k = nI (f_sn sh k) := by
    intro k hk
    induction k with
    | zero => rfl
    | succ k ih =>
      obtain ⟨b, b5, hb⟩ := hb k (by omega)
      rw [g_vot, f_sn, ih (by omega), hb, if_pos (nI_le b5 (by omega)), hs k (by omega), nI_add]
  have h100 := s_sn_le h8 hs9
  unfold g_car
  rw [h1 n (Nat.le_refl n), h2 n (Nat.le_refl n), show (2 : Int32) = nI 2 from rfl, pk_mul]
  exact decide_eq_true (nI_lt (by omega) (by omega))
theorem o_sn_le {f : Nat → Nat} {j : Nat} : ∀ {n : Nat}, j < n → f j ≤ f_sn f n
  | 0, h => absurd h (Nat.not_lt_zero j)
  | n + 1, h => by
    rw [f_sn]
    rcases Nat.lt_or_ge j n with y | y
    · have := o_sn_le (f := f) y
      omega
    · have e : j = n := by omega
      subst e
      omega
theorem y_F_out {d d1 : xd} (h : ∀ k, k < 159 ∨ 167 < k → d1 k = d k) : y_F d d1 :=
  ⟨⟨fun k hk => h k (by omega), by rw [h 168 (by omega)], fun j _ => by rw [h 175 (by omega)]⟩, fun k hk => h k (by omega), by rw [h 175 (by omega)]⟩
theorem y_F_167 (d : xd) (f : Nat → Int32) : y_F d (x_r d 167 f) := y_F_out (fun k hk => x_r_ne2 (by omega))
theorem s_streetOf {l : Launch} {B : Nat} {d : xd} (hfl : l.stackTraces = false) (h : y_Z B d) (hB : B + 180 < 100000) (x : Int32) : y_S l B d yX11_streetOf wsX11_streetOf (fun G => [.ref (x_b G + 0), .int x]) ["java/lang/IndexOutOfBoundsException"] yX12_streetOf wsX12_streetOf (fun G => [.ref (x_b G + 175), .int x]) := by
  obtain ⟨n, w, q, z, t, hq, q8, hz, z8, hc⟩ := y_open h
  obtain ⟨⟨hn, hn2, hw, hw2, e5, e6, e7⟩, ⟨h8, h6, v3, v4, v5⟩, -, -⟩ := id t
  by_cases hx : 0 ≤ x ∧ x < nI n
  · obtain ⟨i, hi, rfl⟩ := o_ix (by omega) hx
    exact s_q h (by decide) (by decide) (fun G => c_F_streetOf l G d i n hn h8 hi) (y_F_refl d) (fun G => c_M_streetOf l G d i n hn2 h8 hi) (e5 i hi).1
  · exact s_qf h 1 (by decide) (by decide) (E := "java/lang/IndexOutOfBoundsException") rfl (by decide) (by decide) (fun G => c_F_streetOf_1 l hfl G d x n hn hx) (x := 1) rfl (fun G => c_M_streetOf_1 l G d x n hn2 h8 hx)
theorem s_sharesOf {l : Launch} {B : Nat} {d : xd} (hfl : l.stackTraces = false) (h : y_Z B d) (hB : B + 180 < 100000) (x : Int32) : y_S l B d yX11_sharesOf wsX11_sharesOf (fun G => [.ref (x_b G + 0), .int x]) ["java/lang/IndexOutOfBoundsException"] yX12_sharesOf wsX12_sharesOf (fun G => [.ref (x_b G + 175), .int x]) := by
  obtain ⟨n, w, q, z, t, hq, q8, hz, z8, hc⟩ := y_open h
  obtain ⟨⟨hn, hn2, hw, hw2, e5, e6, e7⟩, ⟨h8, h6, v3, v4, v5⟩, -, -⟩ := id t
  by_cases hx : 0 ≤ x ∧ x < nI n
  · obtain ⟨i, hi, rfl⟩ := o_ix (by omega) hx
    exact s_q h (by decide) (by decide) (fun G => c_F_sharesOf l G d i n hn h8 hi) (y_F_refl d) (fun G => c_M_sharesOf l G d i n hn2 h8 hi) (e5 i hi).2.1
  · exact s_qf h 1 (by decide) (by decide) (E := "java/lang/IndexOutOfBoundsException") rfl (by decide) (by decide) (fun G => c_F_sharesOf_1 l hfl G d x n hn hx) (x := 1) rfl (fun G => c_M_sharesOf_1 l G d x n hn2 h8 hx)
theorem s_brightnessOf {l : Launch} {B : Nat} {d : xd} (hfl : l.stackTraces = false) (h : y_Z B d) (hB : B + 180 < 100000) (x : Int32) : y_S l B d yX11_brightnessOf wsX11_brightnessOf (fun G => [.ref (x_b G + 0), .int x]) ["java/lang/IndexOutOfBoundsException"] yX12_brightnessOf wsX12_brightnessOf (fun G => [.ref (x_b G + 175), .int x]) := by
  obtain ⟨n, w, q, z, t, hq, q8, hz, z8, hc⟩ := y_open h
  obtain ⟨⟨hn, hn2, hw, hw2, e5, e6, e7⟩, ⟨h8, h6, v3, v4, v5⟩, -, -⟩ := id t
  by_cases hx : 0 ≤ x ∧ x < nI n
  · obtain ⟨i, hi, rfl⟩ := o_ix (by omega) hx
    exact s_q h (by decide) (by decide) (fun G => c_F_brightnessOf l G d i n hn h8 hi) (y_F_refl d) (fun G => c_M_brightnessOf l G d i n hn2 h8 hi) (e5 i hi).2.2.1
  · exact s_qf h 1 (by decide) (by decide) (E := "java/lang/IndexOutOfBoundsException") rfl (by decide) (by decide) (fun G => c_F_brightnessOf_1 l hfl G d x n hn hx) (x := 1) rfl (fun G => c_M_brightnessOf_1 l G d x n hn2 h8 hx)
theorem s_isOn {l : Launch} {B : Nat} {d : xd} (hfl : l.stackTraces = false) (h : y_Z B d) (hB : B + 180 < 100000) (x : Int32) : y_S l B d yX11_isOn wsX11_isOn (fun G => [.ref (x_b G + 0), .int x]) ["java/lang/IndexOutOfBoundsException"] yX12_isOn wsX12_isOn (fun G => [.ref (x_b G + 175), .int x]) := by
  obtain ⟨n, w, q, z, t, hq, q8, hz, z8, hc⟩ := y_open h
  obtain ⟨⟨hn, hn2, hw, hw2, e5, e6, e7⟩, ⟨h8, h6, v3, v4, v5⟩, -, -⟩ := id t
  by_cases hx : 0 ≤ x ∧ x < nI n
  · obtain ⟨i, hi, rfl⟩ := o_ix (by omega) hx
    exact s_q h (by decide) (by decide) (fun G => c_F_isOn l G d i n hn h8 hi) (y_F_refl d) (fun G => c_M_isOn l G d i n hn2 h8 hi) (o_ion (e5 i hi).2.2.2.1)
  · exact s_qf h 1 (by decide) (by decide) (E := "java/lang/IndexOutOfBoundsException") rfl (by decide) (by decide) (fun G => c_F_isOn_1 l hfl G d x n hn hx) (x := 1) rfl (fun G => c_M_isOn_1 l G d x n hn2 h8 hx)
theorem s_oilOf {l : Launch} {B : Nat} {d : xd} (hfl : l.stackTraces = false) (h : y_Z B d) (hB : B + 180 < 100000) (x : Int32) : y_S l B d yX11_oilOf wsX11_oilOf (fun G => [.ref (x_b G + 0), .int x]) ["java/lang/IndexOutOfBoundsException"] yX12_oilOf wsX12_oilOf (fun G => [.ref (x_b G + 175), .int x]) := by
  obtain ⟨n, w, q, z, t, hq, q8, hz, z8, hc⟩ := y_open h
  obtain ⟨⟨hn, hn2, hw, hw2, e5, e6, e7⟩, ⟨h8, h6, v3, v4, v5⟩, -, -⟩ := id t
  by_cases hx : 0 ≤ x ∧ x < nI n
  · obtain ⟨i, hi, rfl⟩ := o_ix (by omega) hx
    exact s_q h (by decide) (by decide) (fun G => c_F_oilOf l G d i n hn h8 hi) (y_F_refl d) (fun G => c_M_oilOf l G d i n hn2 h8 hi) (e5 i hi).2.2.2.2.1
  · exact s_qf h 1 (by decide) (by decide) (E := "java/lang/IndexOutOfBoundsException") rfl (by decide) (by decide) (fun G => c_F_oilOf_1 l hfl G d x n hn hx) (x := 1) rfl (fun G => c_M_oilOf_1 l G d x n hn2 h8 hx)
theorem s_wickOf {l : Launch} {B : Nat} {d : xd} (hfl : l.stackTraces = false) (h : y_Z B d) (hB : B + 180 < 100000) (x : Int32) : y_S l B d yX11_wickOf wsX11_wickOf (fun G => [.ref (x_b G + 0), .int x]) ["java/lang/IndexOutOfBoundsException"] yX12_wickOf wsX12_wickOf (fun G => [.ref (x_b G + 175), .int x]) := by
  obtain ⟨n, w, q, z, t, hq, q8, hz, z8, hc⟩ := y_open h
  obtain ⟨⟨hn, hn2, hw, hw2, e5, e6, e7⟩, ⟨h8, h6, v3, v4, v5⟩, -, -⟩ := id t
  by_cases hx : 0 ≤ x ∧ x < nI n
  · obtain ⟨i, hi, rfl⟩ := o_ix (by omega) hx
    exact s_q h (by decide) (by decide) (fun G => c_F_wickOf l G d i n hn h8 hi) (y_F_refl d) (fun G => c_M_wickOf l G d i n hn2 h8 hi) (e5 i hi).2.2.2.2.2.1
  · exact s_qf h 1 (by decide) (by decide) (E := "java/lang/IndexOutOfBoundsException") rfl (by decide) (by decide) (fun G => c_F_wickOf_1 l hfl G d x n hn hx) (x := 1) rfl (fun G => c_M_wickOf_1 l G d x n hn2 h8 hx)
theorem s_balanceOf {l : Launch} {B : Nat} {d : xd} (hfl : l.stackTraces = false) (h : y_Z B d) (hB : B + 180 < 100000) (x : Int32) : y_S l B d yX11_balanceOf wsX11_balanceOf (fun G => [.ref (x_b G + 0), .int x]) ["java/lang/IndexOutOfBoundsException"] yX12_balanceOf wsX12_balanceOf (fun G => [.ref (x_b G + 175), .int x]) := by
  obtain ⟨n, w, q, z, t, hq, q8, hz, z8, hc⟩ := y_open h
  obtain ⟨⟨hn, hn2, hw, hw2, e5, e6, e7⟩, ⟨h8, h6, v3, v4, v5⟩, -, -⟩ := id t
  by_cases hx : 0 ≤ x ∧ x < nI n
  · obtain ⟨i, hi, rfl⟩ := o_ix (by omega) hx
    exact s_q h (by decide) (by decide) (fun G => c_F_balanceOf l G d i n hn h8 hi) (y_F_refl d) (fun G => c_M_balanceOf l G d i n hn2 h8 hi) (e5 i hi).2.2.2.2.2.2
  · exact s_qf h 1 (by decide) (by decide) (E := "java/lang/IndexOutOfBoundsException") rfl (by decide) (by decide) (fun G => c_F_balanceOf_1 l hfl G d x n hn hx) (x := 1) rfl (fun G => c_M_balanceOf_1 l G d x n hn2 h8 hx)
theorem s_canBurn {l : Launch} {B : Nat} {d : xd} (hfl : l.stackTraces = false) (h : y_Z B d) (hB : B + 180 < 100000) (x : Int32) : y_S l B d yX11_canBurn wsX11_canBurn (fun G => [.ref (x_b G + 0), .int x]) ["java/lang/IndexOutOfBoundsException"] yX12_canBurn wsX12_canBurn (fun G => [.ref (x_b G + 175), .int x]) := by
  obtain ⟨n, w, q, z, t, hq, q8, hz, z8, hc⟩ := y_open h
  obtain ⟨⟨hn, hn2, hw, hw2, e5, e6, e7⟩, ⟨h8, h6, v3, v4, v5⟩, -, -⟩ := id t
  by_cases hx : 0 ≤ x ∧ x < nI n
  · obtain ⟨i, hi, rfl⟩ := o_ix (by omega) hx
    exact s_q h (by decide) (by decide) (fun G => c_F_canBurn l G d i n hn h8 hi) (y_F_refl d) (fun G => c_M_canBurn l G d i n hn2 h8 hi) (by rw [t_rdy t.1 t.2.1 hi])
  · exact s_qf h 1 (by decide) (by decide) (E := "java/lang/IndexOutOfBoundsException") rfl (by decide) (by decide) (fun G => c_F_canBurn_1 l hfl G d x n hn hx) (x := 1) rfl (fun G => c_M_canBurn_1 l G d x n hn2 h8 hx)
theorem s_lampOfMoth {l : Launch} {B : Nat} {d : xd} (hfl : l.stackTraces = false) (h : y_Z B d) (hB : B + 180 < 100000) (x : Int32) : y_S l B d yX11_lampOfMoth wsX11_lampOfMoth (fun G => [.ref (x_b G + 0), .int x]) ["java/lang/IndexOutOfBoundsException"] yX12_lampOfMoth wsX12_lampOfMoth (fun G => [.ref (x_b G + 175), .int x]) := by
  obtain ⟨n, w, q, z, t, hq, q8, hz, z8, hc⟩ := y_open h
  obtain ⟨⟨hn, hn2, hw, hw2, e5, e6, e7⟩, ⟨h8, h6, v3, v4, v5⟩, -, -⟩ := id t
  by_cases hx : 0 ≤ x ∧ x < nI w
  · obtain ⟨i, hi, rfl⟩ := o_ix (by omega) hx
    exact s_q h (by decide) (by decide) (fun G => c_F_lampOfMoth l G d i w hw h6 hi) (y_F_refl d) (fun G => c_M_lampOfMoth l G d i w hw2 h6 hi) (e6 i hi).1
  · exact s_qf h 1 (by decide) (by decide) (E := "java/lang/IndexOutOfBoundsException") rfl (by decide) (by decide) (fun G => c_F_lampOfMoth_1 l hfl G d x w hw hx) (x := 1) rfl (fun G => c_M_lampOfMoth_1 l G d x w hw2 h6 hx)
theorem s_strikesOf {l : Launch} {B : Nat} {d : xd} (hfl : l.stackTraces = false) (h : y_Z B d) (hB : B + 180 < 100000) (x : Int32) : y_S l B d yX11_strikesOf wsX11_strikesOf (fun G => [.ref (x_b G + 0), .int x]) ["java/lang/IndexOutOfBoundsException"] yX12_strikesOf wsX12_strikesOf (fun G => [.ref (x_b G + 175), .int x]) := by
  obtain ⟨n, w, q, z, t, hq, q8, hz, z8, hc⟩ := y_open h
  obtain ⟨⟨hn, hn2, hw, hw2, e5, e6, e7⟩, ⟨h8, h6, v3, v4, v5⟩, -, -⟩ := id t
  by_cases hx : 0 ≤ x ∧ x < nI w
  · obtain ⟨i, hi, rfl⟩ := o_ix (by omega) hx
    exact s_q h (by decide) (by decide) (fun G => c_F_strikesOf l G d i w hw h6 hi) (y_F_refl d) (fun G => c_M_strikesOf l G d i w hw2 h6 hi) (e6 i hi).2.1
  · exact s_qf h 1 (by decide) (by decide) (E := "java/lang/IndexOutOfBoundsException") rfl (by decide) (by decide) (fun G => c_F_strikesOf_1 l hfl G d x w hw hx) (x := 1) rfl (fun G => c_M_strikesOf_1 l G d x w hw2 h6 hx)
theorem s_probationOf {l : Launch} {B : Nat} {d : xd} (hfl : l.stackTraces = false) (h : y_Z B d) (hB : B + 180 < 100000) (x : Int32) : y_S l B d yX11_probationOf wsX11_probationOf (fun G => [.ref (x_b G + 0), .int x]) ["java/lang/IndexOutOfBoundsException"] yX12_probationOf wsX12_probationOf (fun G => [.ref (x_b G + 175), .int x]) := by
  obtain ⟨n, w, q, z, t, hq, q8, hz, z8, hc⟩ := y_open h
  obtain ⟨⟨hn, hn2, hw, hw2, e5, e6, e7⟩, ⟨h8, h6, v3, v4, v5⟩, -, -⟩ := id t
  by_cases hx : 0 ≤ x ∧ x < nI w
  · obtain ⟨i, hi, rfl⟩ := o_ix (by omega) hx
    exact s_q h (by decide) (by decide) (fun G => c_F_probationOf l G d i w hw h6 hi) (y_F_refl d) (fun G => c_M_probationOf l G d i w hw2 h6 hi) (e6 i hi).2.2
  · exact s_qf h 1 (by decide) (by decide) (E := "java/lang/IndexOutOfBoundsException") rfl (by decide) (by decide) (fun G => c_F_probationOf_1 l hfl G d x w hw hx) (x := 1) rfl (fun G => c_M_probationOf_1 l G d x w hw2 h6 hx)
theorem s_isMember {l : Launch} {B : Nat} {d : xd} (hfl : l.stackTraces = false) (h : y_Z B d) (hB : B + 180 < 100000) (x : Int32) : y_S l B d yX11_isMember wsX11_isMember (fun G => [.ref (x_b G + 0), .int x]) ["java/lang/IndexOutOfBoundsException"] yX12_isMember wsX12_isMember (fun G => [.ref (x_b G + 175), .int x]) := by
  obtain ⟨n, w, q, z, t, hq, q8, hz, z8, hc⟩ := y_open h
  obtain ⟨⟨hn, hn2, hw, hw2, e5, e6, e7⟩, ⟨h8, h6, v3, v4, v5⟩, -, -⟩ := id t
  by_cases hx : 0 ≤ x ∧ x < nI w
  · obtain ⟨i, hi, rfl⟩ := o_ix (by omega) hx
    exact s_q h (by decide) (by decide) (fun G => c_F_isMember l G d i w hw h6 hi) (y_F_refl d) (fun G => c_M_isMember l G d i w hw2 h6 hi) (by obtain ⟨a, ha, hva⟩ := (v4 i hi).2.2; exact o_mem ha hva (e6 i hi).2.2)
  · exact s_qf h 1 (by decide) (by decide) (E := "java/lang/IndexOutOfBoundsException") rfl (by decide) (by decide) (fun G => c_F_isMember_1 l hfl G d x w hw hx) (x := 1) rfl (fun G => c_M_isMember_1 l G d x w hw2 h6 hx)
theorem s_nightsOf {l : Launch} {B : Nat} {d : xd} (hfl : l.stackTraces = false) (h : y_Z B d) (hB : B + 180 < 100000) (x : Int32) : y_S l B d yX11_nightsOf wsX11_nightsOf (fun G => [.ref (x_b G + 0), .int x]) ["java/lang/IndexOutOfBoundsException"] yX12_nightsOf wsX12_nightsOf (fun G => [.ref (x_b G + 175), .int x]) := by
  obtain ⟨n, w, q, z, t, hq, q8, hz, z8, hc⟩ := y_open h
  obtain ⟨⟨hn, hn2, hw, hw2, e5, e6, e7⟩, ⟨h8, h6, v3, v4, v5⟩, -, -⟩ := id t
  by_cases hx : 0 ≤ x ∧ x < nI n
  · obtain ⟨i, hi, rfl⟩ := o_ix (by omega) hx
    obtain ⟨-, -, ⟨b, b1, b2, hb⟩, ⟨o, o1, ho⟩, ⟨u, u1, hu⟩⟩ := v3 i hi
    have hb : d 5 i = nI b := hb
    have ho : d 7 i = nI o := ho
    have hu : d 8 i = nI u := hu
    have hb2 : d 176 (22 + i) = nI b := (e5 i hi).2.2.1.symm.trans hb
    have ho2 : d 176 (38 + i) = nI o := (e5 i hi).2.2.2.2.1.symm.trans ho
    have hu2 : d 176 (46 + i) = nI u := (e5 i hi).2.2.2.2.2.1.symm.trans hu
    have hb0 : ¬ d 176 (22 + i) = 0 := by rw [hb2]; exact nI_ne0 (by omega) (by omega)
    exact s_q h (by decide) (by decide) (fun G => c_F_nightsOf l G d i n hn h8 hi) (y_F_refl d) (fun G => c_M_nightsOf l G d i n hn2 h8 hi hb0) ((o_nf hb ho hu b1 b2 o1 u1).trans (o_las hb2 ho2 hu2 b1 b2 o1 u1).symm)
  · exact s_qf h 1 (by decide) (by decide) (E := "java/lang/IndexOutOfBoundsException") rfl (by decide) (by decide) (fun G => c_F_nightsOf_1 l hfl G d x n hn hx) (x := 1) rfl (fun G => c_M_nightsOf_1 l G d x n hn2 h8 hx)
theorem s_nightsBySimulation {l : Launch} {B : Nat} {d : xd} (hfl : l.stackTraces = false) (h : y_Z B d) (hB : B + 180 < 100000) (x : Int32) : y_S l B d yX11_nightsBySimulation wsX11_nightsBySimulation (fun G => [.ref (x_b G + 0), .int x]) ["java/lang/IndexOutOfBoundsException"] yX12_nightsBySimulation wsX12_nightsBySimulation (fun G => [.ref (x_b G + 175), .int x]) := by
  obtain ⟨n, w, q, z, t, hq, q8, hz, z8, hc⟩ := y_open h
  obtain ⟨⟨hn, hn2, hw, hw2, e5, e6, e7⟩, ⟨h8, h6, v3, v4, v5⟩, -, -⟩ := id t
  by_cases hx : 0 ≤ x ∧ x < nI n
  · obtain ⟨i, hi, rfl⟩ := o_ix (by omega) hx
    obtain ⟨-, -, ⟨b, b1, b2, hb⟩, ⟨o, o1, ho⟩, ⟨u, u1, hu⟩⟩ := v3 i hi
    have hb : d 5 i = nI b := hb
    have ho : d 7 i = nI o := ho
    have hu : d 8 i = nI u := hu
    have hb2 : d 176 (22 + i) = nI b := (e5 i hi).2.2.1.symm.trans hb
    have ho2 : d 176 (38 + i) = nI o := (e5 i hi).2.2.2.2.1.symm.trans ho
    have hu2 : d 176 (46 + i) = nI u := (e5 i hi).2.2.2.2.2.1.symm.trans hu
    have hb0 : ¬ d 176 (22 + i) = 0 := by rw [hb2]; exact nI_ne0 (by omega) (by omega)
    exact s_q h (by decide) (by decide) (fun G => c_F_nightsBySimulation l G d i n hn h8 hi o b u ho hb hu (by omega) b1 (by omega) (by omega)) (y_F_refl d) (fun G => c_M_nightsBySimulation l G d i n hn2 h8 hi hb0) (o_las hb2 ho2 hu2 b1 b2 o1 u1).symm
  · exact s_qf h 1 (by decide) (by decide) (E := "java/lang/IndexOutOfBoundsException") rfl (by decide) (by decide) (fun G => c_F_nightsBySimulation_1 l hfl G d x n hn hx) (x := 1) rfl (fun G => c_M_nightsBySimulation_1 l G d x n hn2 h8 hx)
theorem s_glowOf {l : Launch} {B : Nat} {d : xd} (hfl : l.stackTraces = false) (h : y_Z B d) (hB : B + 180 < 100000) (x : Int32) : y_S l B d yX11_glowOf wsX11_glowOf (fun G => [.ref (x_b G + 0), .int x]) ["java/lang/IndexOutOfBoundsException"] yX12_glowOf wsX12_glowOf (fun G => [.ref (x_b G + 175), .int x]) := by
  obtain ⟨n, w, q, z, t, hq, q8, hz, z8, hc⟩ := y_open h
  obtain ⟨⟨hn, hn2, hw, hw2, e5, e6, e7⟩, ⟨h8, h6, v3, v4, v5⟩, -, -⟩ := id t
  by_cases hx : 0 ≤ x ∧ x ≤ 3
  · exact s_q h (by decide) (by decide) (fun G => c_F_glowOf l G d x hx n hn h8) (y_F_refl d) (fun G => c_M_glowOf l G d x hx n hn2 h8) (o_glow t x n (Nat.le_refl n))
  · exact s_qf h 1 (by decide) (by decide) (E := "java/lang/IndexOutOfBoundsException") rfl (by decide) (by decide) (fun G => c_F_glowOf_1 l hfl G d x hx) (x := 1) rfl (fun G => c_M_glowOf_1 l G d x hx)
theorem s_isDark {l : Launch} {B : Nat} {d : xd} (hfl : l.stackTraces = false) (h : y_Z B d) (hB : B + 180 < 100000) (x : Int32) : y_S l B d yX11_isDark wsX11_isDark (fun G => [.ref (x_b G + 0), .int x]) ["java/lang/IndexOutOfBoundsException"] yX12_isDark wsX12_isDark (fun G => [.ref (x_b G + 175), .int x]) := by
  obtain ⟨n, w, q, z, t, hq, q8, hz, z8, hc⟩ := y_open h
  obtain ⟨⟨hn, hn2, hw, hw2, e5, e6, e7⟩, ⟨h8, h6, v3, v4, v5⟩, -, -⟩ := id t
  by_cases hx : 0 ≤ x ∧ x ≤ 3
  · exact s_q h (by decide) (by decide) (fun G => c_F_isDark l G d x hx n hn h8) (y_F_refl d) (fun G => c_M_isDark l G d x hx n hn2 h8) (by rw [o_glow t x n (Nat.le_refl n)])
  · exact s_qf h 1 (by decide) (by decide) (E := "java/lang/IndexOutOfBoundsException") rfl (by decide) (by decide) (fun G => c_F_isDark_1 l hfl G d x hx) (x := 1) rfl (fun G => c_M_isDark_1 l G d x hx)
theorem s_votesFor {l : Launch} {B : Nat} {d : xd} (hfl : l.stackTraces = false) (h : y_Z B d) (hB : B + 180 < 100000) (x : Int32) : y_S l B d yX11_votesFor wsX11_votesFor (fun G => [.ref (x_b G + 0), .int x]) ["java/lang/IllegalArgumentException"] yX12_votesFor wsX12_votesFor (fun G => [.ref (x_b G + 175), .int x]) := by
  obtain ⟨n, w, q, z, t, hq, q8, hz, z8, hc⟩ := y_open h
  obtain ⟨⟨hn, hn2, hw, hw2, e5, e6, e7⟩, ⟨h8, h6, v3, v4, v5⟩, -, -⟩ := id t
  by_cases hx : 1 ≤ x ∧ x ≤ 5
  · exact s_q h (by decide) (by decide) (fun G => c_F_votesFor l G d x hx n hn h8) (y_F_refl d) (fun G => c_M_votesFor l G d x hx n hn2 h8) (o_vot t.1 x n (Nat.le_refl n))
  · exact s_qf h 1 (by decide) (by decide) (E := "java/lang/IllegalArgumentException") rfl (by decide) (by decide) (fun G => c_F_votesFor_2 l hfl G d x hx) (x := 1) rfl (fun G => c_M_votesFor_1 l G d x hx)
theorem s_lowestCap {l : Launch} {B : Nat} {d : xd} (hfl : l.stackTraces = false) (h : y_Z B d) (hB : B + 180 < 100000) : y_S l B d yX11_lowestCap wsX11_lowestCap (fun G => [.ref (x_b G + 0)]) ["java/util/NoSuchElementException"] yX12_lowestCap wsX12_lowestCap (fun G => [.ref (x_b G + 175)]) := by
  obtain ⟨n, w, q, z, t, hq, q8, hz, z8, hc⟩ := y_open h
  obtain ⟨⟨hn, hn2, hw, hw2, e5, e6, e7⟩, ⟨h8, h6, v3, v4, v5⟩, -, -⟩ := id t
  rcases Nat.eq_zero_or_pos n with h0 | h1
  · subst h0
    exact s_qf h 1 (by decide) (by decide) (E := "java/util/NoSuchElementException") rfl (by decide) (by decide) (fun G => c_F_lowestCap_4 l hfl G d hn) (x := 1) rfl (fun G => c_M_lowestCap_1 l G d hn2)
  · have h5 : g_car (d 176) n (nI (4 + 1)) = true := by
      obtain ⟨sh, s1, s2, s3⟩ := r_sh t.2.1
      exact o_car5 (fun j hj => (e5 j hj).2.1.symm.trans (s1 j hj)) s2 (s3 h1) (by omega) (fun j hj => by
        obtain ⟨b, b1, b2, hb⟩ := (v3 j hj).2.2.1
        exact ⟨b, b2, (e5 j hj).2.2.1.symm.trans hb⟩)
    obtain ⟨k, hk, hk0⟩ := pk_least (fun k => g_car (d 176) n (nI (k + 1)) = true) ⟨4, h5⟩
    have hk4 : k ≤ 4 := by
      rcases Nat.lt_or_ge 4 k with y | y
      · exact absurd h5 (hk0 4 y)
      · exact y
    exact s_q h (by decide) (by decide) (fun G => c_F_lowestCap l G d n hn h8 h1 k (by omega) (Or.inr ((o_wc t).trans hk)) (fun j hj y => hk0 j hj ((o_wc t).symm.trans y))) (y_F_refl d) (fun G => c_M_lowestCap l G d k (by omega) n hn2 h8 h1 hk hk0) rfl
theorem s_richestLamp {l : Launch} {B : Nat} {d : xd} (hfl : l.stackTraces = false) (h : y_Z B d) (hB : B + 180 < 100000) (x : Int32) : y_S l B d yX11_richestLamp wsX11_richestLamp (fun G => [.ref (x_b G + 0), .int x]) ["java/util/NoSuchElementException"] yX12_richestLamp wsX12_richestLamp (fun G => [.ref (x_b G + 175), .int x]) := by
  obtain ⟨n, w, q, z, t, hq, q8, hz, z8, hc⟩ := y_open h
  obtain ⟨⟨hn, hn2, hw, hw2, e5, e6, e7⟩, ⟨h8, h6, v3, v4, v5⟩, -, -⟩ := id t
  obtain ⟨r, hr1, hr2⟩ : ∃ r : Nat → Nat, (∀ j, j < n → r j < 100000) ∧ ∀ j, j < n → d 9 j = nI (r j) := by
    obtain ⟨b9, t9, m1, m2, m3⟩ := t.2.2.1
    exact ⟨b9, fun j hj => by have := o_sn_le (f := b9) hj; omega, m1⟩
  have hr3 : ∀ j, j < n → d 176 (54 + j) = nI (r j) := fun j hj => (e5 j hj).2.2.2.2.2.2.symm.trans (hr2 j hj)
  by_cases hx : 0 ≤ x ∧ x < nI n
  · obtain ⟨i, hi, rfl⟩ := o_ix (by omega) hx
    obtain ⟨k, k1, k2, k3⟩ := s_rank hr1 hi
    have hl : ∀ j, g_ah r j n < 1000000 := fun j => by have := g_ah_le r j n; omega
    exact s_q h (by decide) (by decide) (fun G => c_F_richestLamp l G d n hn h8 r hr1 hr2 i hi k k1 k2 k3) (y_F_167 d _) (fun G => c_M_richestLamp l G _ (nI i) k n (by rw [x_r_ne2 (by omega)]; exact hn2) h8 k1 r hr1 (fun j hj => by rw [x_r_ne2 (by omega)]; exact hr3 j hj) (by rw [k2]) (fun j hj y => k3 j hj ((nI_eq (by have := hl j; omega) (by omega)).mp y))) rfl
  · exact s_qf h 1 (by decide) (by decide) (E := "java/util/NoSuchElementException") rfl (by decide) (by decide) (fun G => c_F_richestLamp_4 l hfl G d x n hn hx) (x := 1) rfl (fun G => c_M_richestLamp_1 l G d x n hn2 h8 r hr1 hr3 (fun j hj y => hx (by rw [← y]; exact ⟨nI_pos' (by have := g_ah_le r j n; omega), nI_lt (s_ah_self n hj) (by omega)⟩)))
theorem s_longestLamp {l : Launch} {B : Nat} {d : xd} (hfl : l.stackTraces = false) (h : y_Z B d) (hB : B + 180 < 100000) (x : Int32) : y_S l B d yX11_longestLamp wsX11_longestLamp (fun G => [.ref (x_b G + 0), .int x]) ["java/util/NoSuchElementException"] yX12_longestLamp wsX12_longestLamp (fun G => [.ref (x_b G + 175), .int x]) := by
  obtain ⟨n, w, q, z, t, hq, q8, hz, z8, hc⟩ := y_open h
  obtain ⟨⟨hn, hn2, hw, hw2, e5, e6, e7⟩, ⟨h8, h6, v3, v4, v5⟩, -, -⟩ := id t
  obtain ⟨r, hr1, hr2, hr3, hb0⟩ : ∃ r : Nat → Nat, (∀ j, j < n → r j < 100000) ∧ (∀ j, j < n → f_nf d 1 j = nI (r j)) ∧ (∀ j, j < n → g_las (d 176) j = nI (r j)) ∧ ∀ j, j < n → ¬ d 176 (22 + j) = 0 := by
    have hx : ∀ j, j < n → ∃ r, r < 100000 ∧ f_nf d 1 j = nI r ∧ g_las (d 176) j = nI r ∧ ¬ d 176 (22 + j) = 0 := fun i hi => by
      obtain ⟨-, -, ⟨b, b1, b2, hb⟩, ⟨o, o1, ho⟩, ⟨u, u1, hu⟩⟩ := v3 i hi
      have hb : d 5 i = nI b := hb
      have ho : d 7 i = nI o := ho
      have hu : d 8 i = nI u := hu
      have hb2 : d 176 (22 + i) = nI b := (e5 i hi).2.2.1.symm.trans hb
      have ho2 : d 176 (38 + i) = nI o := (e5 i hi).2.2.2.2.1.symm.trans ho
      have hu2 : d 176 (46 + i) = nI u := (e5 i hi).2.2.2.2.2.1.symm.trans hu
      have hb0 : ¬ d 176 (22 + i) = 0 := by rw [hb2]; exact nI_ne0 (by omega) (by omega)
      exact ⟨min (o / b) u, by omega, o_nf hb ho hu b1 b2 o1 u1, o_las hb2 ho2 hu2 b1 b2 o1 u1, hb0⟩
    refine ⟨fun j => if hj : j < n then (hx j hj).choose else 0, fun j hj => ?_, fun j hj => ?_, fun j hj => ?_, fun j hj => (hx j hj).choose_spec.2.2.2⟩
    · show (if hj : j < n then (hx j hj).choose else 0) < 100000
      rw [dif_pos hj]; exact (hx j hj).choose_spec.1
    · show _ = nI (if hj : j < n then (hx j hj).choose else 0)
      rw [dif_pos hj]; exact (hx j hj).choose_spec.2.1
    · show _ = nI (if hj : j < n then (hx j hj).choose else 0)
      rw [dif_pos hj]; exact (hx j hj).choose_spec.2.2.1
  by_cases hx : 0 ≤ x ∧ x < nI n
  · obtain ⟨i, hi, rfl⟩ := o_ix (by omega) hx
    obtain ⟨k, k1, k2, k3⟩ := s_rank hr1 hi
    have hl : ∀ j, g_ah r j n < 1000000 := fun j => by have := g_ah_le r j n; omega
    exact s_q h (by decide) (by decide) (fun G => c_F_longestLamp l G d n hn h8 r hr1 hr2 i hi k k1 k2 k3) (y_F_167 d _) (fun G => c_M_longestLamp l G _ (nI i) k n (by rw [x_r_ne2 (by omega)]; exact hn2) h8 k1 r hr1 (fun j hj => by rw [x_r_ne2 (by omega)]; exact hr3 j hj) (fun j hj => by rw [x_r_ne2 (by omega)]; exact hb0 j hj) (by rw [k2]) (fun j hj y => k3 j hj ((nI_eq (by have := hl j; omega) (by omega)).mp y))) rfl
  · exact s_qf h 1 (by decide) (by decide) (E := "java/util/NoSuchElementException") rfl (by decide) (by decide) (fun G => c_F_longestLamp_4 l hfl G d x n hn hx) (x := 1) rfl (fun G => c_M_longestLamp_1 l G d x n hn2 h8 r hr1 hr3 hb0 (fun j hj y => hx (by rw [← y]; exact ⟨nI_pos' (by have := g_ah_le r j n; omega), nI_lt (s_ah_self n hj) (by omega)⟩)))
theorem s_portionOf {l : Launch} {B : Nat} {d : xd} (hfl : l.stackTraces = false) (h : y_Z B d) (hB : B + 180 < 100000) (x u : Int32) : y_S l B d yX11_portionOf wsX11_portionOf (fun G => [.ref (x_b G + 0), .int x, .int u]) ["java/lang/IndexOutOfBoundsException", "java/lang/IllegalArgumentException"] yX12_portionOf wsX12_portionOf (fun G => [.ref (x_b G + 175), .int x, .int u]) := by
  obtain ⟨n, w, q, z, t, hq, q8, hz, z8, hc⟩ := y_open h
  obtain ⟨⟨hn, hn2, hw, hw2, e5, e6, e7⟩, ⟨h8, h6, v3, v4, v5⟩, -, -⟩ := id t
  rcases o_rpor x u hn h8 with ⟨h0, ⟨i, hi, rfl⟩, hu⟩ | ⟨h0, hx⟩ | ⟨h0, ⟨i, hi, rfl⟩, hu⟩
  · obtain ⟨a, b3, b4, rfl⟩ := o_rng (lo := 0) (hi := 999) (by decide) (by decide) hu
    obtain ⟨sh, s1, s2, s3⟩ := r_sh t.2.1
    have s3 := s3 (by omega)
    have s4 : ∀ j, j < n → d 176 (14 + j) = nI (sh j) := fun j hj => (e5 j hj).2.1.symm.trans (s1 j hj)
    exact s_q h (by decide) (by decide) (fun G => c_F_portionOf l G d i n hn h8 hi a sh s1 s2 s3 (by omega) h0) (y_F_out (fun k hk => f_dbs_out (by omega))) (fun G => c_M_portionOf l G _ a sh i n (by rw [f_dbs_out (by omega)]; exact hn2) h8 hi (fun j hj => by rw [f_dbs_out (by omega)]; exact s4 j hj) s2 s3 (by omega) hu) (s_por h8 s2 s3 hi)
  · exact s_qf h 1 (by decide) (by decide) (E := "java/lang/IndexOutOfBoundsException") rfl (by decide) (by decide) (fun G => c_F_portionOf_1 l hfl G d x u h0) (x := 1) rfl (fun G => c_M_portionOf_1 l G d x n hn2 h8 hx u)
  · exact s_qf h 2 (by decide) (by decide) (E := "java/lang/IllegalArgumentException") rfl (by decide) (by decide) (fun G => c_F_portionOf_2 l hfl G d (nI i) u h0) (x := 2) rfl (fun G => c_M_portionOf_2 l G d i n hn2 h8 hi u hu)
theorem s_portionByRounds {l : Launch} {B : Nat} {d : xd} (hfl : l.stackTraces = false) (h : y_Z B d) (hB : B + 180 < 100000) (x u : Int32) : y_S l B d yX11_portionByRounds wsX11_portionByRounds (fun G => [.ref (x_b G + 0), .int x, .int u]) ["java/lang/IndexOutOfBoundsException", "java/lang/IllegalArgumentException"] yX12_portionByRounds wsX12_portionByRounds (fun G => [.ref (x_b G + 175), .int x, .int u]) := by
  obtain ⟨n, w, q, z, t, hq, q8, hz, z8, hc⟩ := y_open h
  obtain ⟨⟨hn, hn2, hw, hw2, e5, e6, e7⟩, ⟨h8, h6, v3, v4, v5⟩, -, -⟩ := id t
  rcases o_rpor x u hn h8 with ⟨h0, ⟨i, hi, rfl⟩, hu⟩ | ⟨h0, hx⟩ | ⟨h0, ⟨i, hi, rfl⟩, hu⟩
  · obtain ⟨a, b3, b4, rfl⟩ := o_rng (lo := 0) (hi := 999) (by decide) (by decide) hu
    obtain ⟨sh, s1, s2, s3⟩ := r_sh t.2.1
    have s3 := s3 (by omega)
    have s4 : ∀ j, j < n → d 176 (14 + j) = nI (sh j) := fun j hj => (e5 j hj).2.1.symm.trans (s1 j hj)
    obtain ⟨n, rfl⟩ : ∃ j, n = j + 1 := ⟨n - 1, by omega⟩
    exact s_q h (by decide) (by decide) (fun G => c_F_portionByRounds l G d i n hn h8 hi a sh s1 s2 s3 (by omega) h0) (y_F_out (fun k hk => f_dir_out (by omega))) (fun G => c_M_portionByRounds l G _ a sh i (n + 1) (by rw [f_dir_out (by omega)]; exact hn2) h8 hi (fun j hj => by rw [f_dir_out (by omega)]; exact s4 j hj) s2 s3 (by omega) hu) (s_prr h8 s2 s3 hi)
  · exact s_qf h 1 (by decide) (by decide) (E := "java/lang/IndexOutOfBoundsException") rfl (by decide) (by decide) (fun G => c_F_portionByRounds_1 l hfl G d x u h0) (x := 1) rfl (fun G => c_M_portionByRounds_1 l G d x n hn2 h8 hx u)
  · exact s_qf h 2 (by decide) (by decide) (E := "java/lang/IllegalArgumentException") rfl (by decide) (by decide) (fun G => c_F_portionByRounds_2 l hfl G d (nI i) u h0) (x := 2) rfl (fun G => c_M_portionByRounds_2 l G d i n hn2 h8 hi u hu)
theorem s_errorPosition {l : Launch} {B : Nat} {d : xd} (hfl : l.stackTraces = false) (h : y_Z B d) (hB : B + 180 < 100000) : y_S l B d yX11_errorPosition wsX11_errorPosition (fun G => [.ref (x_b G + 0)]) ["java/util/NoSuchElementException"] yX12_errorPosition wsX12_errorPosition (fun G => [.ref (x_b G + 175)]) := by
  obtain ⟨n, w, q, z, t, hq, q8, hz, z8, hc⟩ := y_open h
  obtain ⟨⟨hn, hn2, hw, hw2, e5, e6, e7⟩, ⟨h8, h6, v3, v4, v5⟩, -, -⟩ := id t
  have er : d 0 11 = d 175 8 := h.2.2.2.2.2.1
  by_cases hx : d 0 11 = -1
  · exact s_qf h 1 (by decide) (by decide) (E := "java/util/NoSuchElementException") rfl (by decide) (by decide) (fun G => c_F_errorPosition_4 l hfl G d hx) (x := 1) rfl (fun G => c_M_errorPosition_1 l G d (er.symm.trans hx))
  · exact s_q h (by decide) (by decide) (fun G => c_F_errorPosition l G d hx) (y_F_refl d) (fun G => c_M_errorPosition l G d (fun y => hx (er.trans y))) er
theorem s_failedCommand {l : Launch} {B : Nat} {d : xd} (hfl : l.stackTraces = false) (h : y_Z B d) (hB : B + 180 < 100000) : y_S l B d yX11_failedCommand wsX11_failedCommand (fun G => [.ref (x_b G + 0)]) ["java/util/NoSuchElementException"] yX12_failedCommand wsX12_failedCommand (fun G => [.ref (x_b G + 175)]) := by
  obtain ⟨n, w, q, z, t, hq, q8, hz, z8, hc⟩ := y_open h
  obtain ⟨⟨hn, hn2, hw, hw2, e5, e6, e7⟩, ⟨h8, h6, v3, v4, v5⟩, -, -⟩ := id t
  have er : d 0 12 = d 175 9 := h.2.2.2.2.2.2
  by_cases hx : d 0 12 = -1
  · exact s_qf h 1 (by decide) (by decide) (E := "java/util/NoSuchElementException") rfl (by decide) (by decide) (fun G => c_F_failedCommand_4 l hfl G d hx) (x := 1) rfl (fun G => c_M_failedCommand_1 l G d (er.symm.trans hx))
  · exact s_q h (by decide) (by decide) (fun G => c_F_failedCommand l G d hx) (y_F_refl d) (fun G => c_M_failedCommand l G d (fun y => hx (er.trans y))) er
theorem s_lineAt {l : Launch} {B : Nat} {d : xd} (hfl : l.stackTraces = false) (h : y_Z B d) (hB : B + 180 < 100000) (x : Int32) : y_S l B d yX11_lineAt wsX11_lineAt (fun G => [.ref (x_b G + 0), .int x]) ["java/lang/IndexOutOfBoundsException"] yX12_lineAt wsX12_lineAt (fun G => [.ref (x_b G + 175), .int x]) := by
  obtain ⟨n, w, q, z, t, hq, q8, hz, z8, hc⟩ := y_open h
  obtain ⟨⟨hn, hn2, hw, hw2, e5, e6, e7⟩, ⟨h8, h6, v3, v4, v5⟩, -, -⟩ := id t
  obtain ⟨ls, ⟨l1, l2⟩, ⟨l3, l4⟩, l5, l6, l7⟩ := h.2.2.2.2.1
  by_cases hx : 0 ≤ x ∧ x < nI ls.length
  · obtain ⟨i, hi, rfl⟩ := o_ix (by omega) hx
    have hlt : ls.getD i 0 < 128 := by
      rw [List.getD_eq_getElem?_getD, List.getElem?_eq_getElem hi]
      exact l6 _ (List.getElem_mem hi)
    exact s_q h (by decide) (by decide) (fun G => c_F_lineAt l G d i _ l1 (by omega) hi _ hlt (l2 i hi) l7) (y_F_refl d) (fun G => c_M_lineAt l G d i _ l3 (by omega) hi _ (l4 i hi) (by omega)) rfl
  · exact s_qf h 1 (by decide) (by decide) (E := "java/lang/IndexOutOfBoundsException") rfl (by decide) (by decide) (fun G => c_F_lineAt_1 l hfl G d x _ l1 hx) (x := 1) rfl (fun G => c_M_lineAt_1 l G d x _ l3 (by omega) hx)
theorem s_lampCount {l : Launch} {B : Nat} {d : xd} (h : y_Z B d) (hB : B + 180 < 100000) : y_D l B d yX11_lampCount wsX11_lampCount yX12_lampCount wsX12_lampCount := by
  obtain ⟨n, w, q, z, t, hq, q8, hz, z8, hc⟩ := y_open h
  obtain ⟨⟨hn, hn2, hw, hw2, e5, e6, e7⟩, ⟨h8, h6, v3, v4, v5⟩, -, bl⟩ := id t
  have er := hn.trans hn2.symm
  exact s_d (by decide) (by decide) (fun G => c_F_lampCount l G d) (fun G => c_M_lampCount l G d) er (y_Z_F h (y_F_th d 0) (by omega))
theorem s_reserve {l : Launch} {B : Nat} {d : xd} (h : y_Z B d) (hB : B + 180 < 100000) : y_D l B d yX11_reserve wsX11_reserve yX12_reserve wsX12_reserve := by
  obtain ⟨n, w, q, z, t, hq, q8, hz, z8, hc⟩ := y_open h
  obtain ⟨⟨hn, hn2, hw, hw2, e5, e6, e7⟩, ⟨h8, h6, v3, v4, v5⟩, -, bl⟩ := id t
  have er := e7.2.1
  exact s_d (by decide) (by decide) (fun G => c_F_reserve l G d) (fun G => c_M_reserve l G d) er (y_Z_F h (y_F_th d 0) (by omega))
theorem s_pool {l : Launch} {B : Nat} {d : xd} (h : y_Z B d) (hB : B + 180 < 100000) : y_D l B d yX11_pool wsX11_pool yX12_pool wsX12_pool := by
  obtain ⟨n, w, q, z, t, hq, q8, hz, z8, hc⟩ := y_open h
  obtain ⟨⟨hn, hn2, hw, hw2, e5, e6, e7⟩, ⟨h8, h6, v3, v4, v5⟩, -, bl⟩ := id t
  have er := e7.2.2.1
  exact s_d (by decide) (by decide) (fun G => c_F_pool l G d) (fun G => c_M_pool l G d) er (y_Z_F h (y_F_th d 0) (by omega))
theorem s_treasury {l : Launch} {B : Nat} {d : xd} (h : y_Z B d) (hB : B + 180 < 100000) : y_D l B d yX11_treasury wsX11_treasury yX12_treasury wsX12_treasury := by
  obtain ⟨n, w, q, z, t, hq, q8, hz, z8, hc⟩ := y_open h
  obtain ⟨⟨hn, hn2, hw, hw2, e5, e6, e7⟩, ⟨h8, h6, v3, v4, v5⟩, -, bl⟩ := id t
  have er := e7.2.2.2
  exact s_d (by decide) (by decide) (fun G => c_F_treasury l G d) (fun G => c_M_treasury l G d) er (y_Z_F h (y_F_th d 0) (by omega))
theorem s_nightCount {l : Launch} {B : Nat} {d : xd} (h : y_Z B d) (hB : B + 180 < 100000) : y_D l B d yX11_nightCount wsX11_nightCount yX12_nightCount wsX12_nightCount := by
  obtain ⟨n, w, q, z, t, hq, q8, hz, z8, hc⟩ := y_open h
  obtain ⟨⟨hn, hn2, hw, hw2, e5, e6, e7⟩, ⟨h8, h6, v3, v4, v5⟩, -, bl⟩ := id t
  have er := e7.1
  exact s_d (by decide) (by decide) (fun G => c_F_nightCount l G d) (fun G => c_M_nightCount l G d) er (y_Z_F h (y_F_th d 0) (by omega))
theorem s_mothCount {l : Launch} {B : Nat} {d : xd} (h : y_Z B d) (hB : B + 180 < 100000) : y_D l B d yX11_mothCount wsX11_mothCount yX12_mothCount wsX12_mothCount := by
  obtain ⟨n, w, q, z, t, hq, q8, hz, z8, hc⟩ := y_open h
  obtain ⟨⟨hn, hn2, hw, hw2, e5, e6, e7⟩, ⟨h8, h6, v3, v4, v5⟩, -, bl⟩ := id t
  have er := hw.trans hw2.symm
  exact s_d (by decide) (by decide) (fun G => c_F_mothCount l G d) (fun G => c_M_mothCount l G d) er (y_Z_F h (y_F_th d 0) (by omega))
theorem s_brightestStreet {l : Launch} {B : Nat} {d : xd} (h : y_Z B d) (hB : B + 180 < 100000) : y_D l B d yX11_brightestStreet wsX11_brightestStreet yX12_brightestStreet wsX12_brightestStreet := by
  obtain ⟨n, w, q, z, t, hq, q8, hz, z8, hc⟩ := y_open h
  obtain ⟨⟨hn, hn2, hw, hw2, e5, e6, e7⟩, ⟨h8, h6, v3, v4, v5⟩, -, bl⟩ := id t
  have er := (show f_bs (fun x => f_glow d 1 x n) 3 = g_bs (fun x => g_glow (d 176) x n) 3 from (congrArg (fun f => f_bs f 3) (funext fun x => o_glow t x n (Nat.le_refl n))).trans (o_bs _ 3))
  exact s_d (by decide) (by decide) (fun G => c_F_brightestStreet l G d n hn h8) (fun G => c_M_brightestStreet l G d n hn2 h8) er (y_Z_F h (y_F_th d 0) (by omega))
theorem s_totalShares {l : Launch} {B : Nat} {d : xd} (h : y_Z B d) (hB : B + 180 < 100000) : y_D l B d yX11_totalShares wsX11_totalShares yX12_totalShares wsX12_totalShares := by
  obtain ⟨n, w, q, z, t, hq, q8, hz, z8, hc⟩ := y_open h
  obtain ⟨⟨hn, hn2, hw, hw2, e5, e6, e7⟩, ⟨h8, h6, v3, v4, v5⟩, -, bl⟩ := id t
  have er := (o_sum (fun i hi => (e5 i hi).2.1))
  exact s_d (by decide) (by decide) (fun G => c_F_totalShares l G d n hn h8) (fun G => c_M_totalShares l G d n hn2 h8) er (y_Z_F h (y_F_th d 0) (by omega))
