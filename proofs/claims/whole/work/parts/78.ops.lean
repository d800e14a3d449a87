/-! each change: refused by both for the same reason, or made by both alike -/
theorem o_swn {x y : Int32} (h : (¬ x_bz x = 0 ∧ y = 0) ∨ (x_bz x = 0 ∧ y = 1)) : x_bi (x_bz x = 0) = x_bi (¬ y = 0) := by
  rcases h with ⟨h1, h2⟩ | ⟨h1, h2⟩
  · subst h2; unfold x_bi; rw [if_neg h1, if_neg (fun q => q rfl)]
  · subst h2; unfold x_bi; rw [if_pos h1, if_pos (by decide)]
theorem o_swf {x y : Int32} (h : (¬ x_bz x = 0 ∧ y = 0) ∨ (x_bz x = 0 ∧ y = 1)) : x_bz x = x_bi (¬ y = 1) := by
  rcases h with ⟨h1, h2⟩ | ⟨h1, h2⟩
  · subst h2
    unfold x_bi
    rw [if_pos (by decide)]
    unfold x_bz at h1 ⊢
    split
    · rename_i e; exact absurd (if_pos e) h1
    · rfl
  · subst h2; unfold x_bi; rw [if_neg (fun q => q rfl), h1]
theorem o_vot {d : xd} {o n w : Nat} {z : Nat → Int32} (e : r_E d o z n w) (x : Int32) : ∀ m, m ≤ n → f_votes d o x m = g_vot z x m
  | 0, _ => rfl
  | m + 1, hm => by
    obtain ⟨-, -, -, -, e5, -⟩ := id e
    obtain ⟨-, a2, a3, -⟩ := e5 m (by omega)
    rw [f_votes, g_vot, o_vot e x m (by omega), a2, a3]
    split
    · rfl
    · rw [Int32.add_zero]
theorem o_sum {f g : Nat → Int32} {n : Nat} (h : ∀ i, i < n → f i = g i) : f_sum f n = f_sum g n := f_sum_cong h
theorem o_wc {B : Nat} {d : xd} {o n w : Nat} {z : Nat → Int32} {x : Int32} (h : r_T B d o z n w) : f_wc d o n x = g_car z n x := by
  unfold f_wc g_car
  rw [o_vot h.1 x n (Nat.le_refl n), o_sum (f := d (o + 3)) (g := g_row z 14) (fun i hi => (h.1.2.2.2.2.1 i hi).2.1)]
theorem g_ok_same (d : xd) : g_ok (g_bg d) (d 176) = g_th (g_bg d) 0 := by
  have e : x_r (g_bg d) 176 (d 176) = g_bg d := by
    funext k
    by_cases h : k = 176
    · subst h
      rw [x_r_same]
      unfold g_bg
      rw [x_r_ne2 (by omega)]
    · rw [x_r_ne2 h]
  show x_p (x_r (g_bg d) 176 (d 176)) 175 12 0 = _
  rw [e]
theorem s_addLamp {l : Launch} {B : Nat} {d : xd} (hfl : l.stackTraces = false) (h : y_Z B d) (hB : B + 180 < 100000) (a b : Int32) : y_S l B d yX11_addLamp wsX11_addLamp (fun G => [.ref (x_b G + 0), .int a, .int b]) ["java/lang/IllegalArgumentException", "java/lang/IllegalStateException"] yX12_addLamp wsX12_addLamp (fun G => [.ref (x_b G + 175), .int a, .int b]) := by
  obtain ⟨n, w, q, z, t, hq, q8, hz, z8, hc⟩ := y_open h
  obtain ⟨⟨hn, hn2, hw, hw2, e5, e6, e7⟩, ⟨h8, h6, v3, v4, v5⟩, -, -⟩ := id t
  rcases o_ra a b hn h8 with ⟨h0, ha, hb, hn8⟩ | ⟨h0, hx⟩ | ⟨h0, ha, hb, rfl⟩
  · obtain ⟨a2, -, a3, rfl⟩ := o_rng (lo := 0) (hi := 3) (by decide) (by decide) ha
    obtain ⟨b2, b3, b4, rfl⟩ := o_rng (lo := 1) (hi := 9) (by decide) (by decide) hb
    have hfr : y_fr (f_rem d 1 q z) (f_app (f_rem d 1 q z) 1 n (nI a2) (nI b2)) := fun k hk => by unfold f_app; rw [x_p_ne (by omega), x_p_ne (by omega), x_p_ne (by omega), x_p_ne (by omega), x_p_ne (by omega), x_p_ne (by omega), x_p_ne (by omega), x_p_ne (by omega)]
    obtain ⟨e6', e5'⟩ := y_at q8 hfr
    exact s_o h hq q8 hz z8 hfr (by rw [e6']; exact y_up (t_add (y_rem t q8) hn8 ⟨a2, by omega, rfl⟩ ⟨b2, b3, b4, rfl⟩) (by omega)) (by decide) (by decide) (fun G => c_F_addLamp l G d q z hq hz q8 z8 _ _ n hn hn8 h0) (fun G => c_M_addLamp l G _ z (by rw [e5']; exact hc) z8 _ _ n ha hb (by rw [e6']; exact hn2) hn8) rfl
  · exact s_of h 1 (by decide) (by decide) (E := "java/lang/IllegalArgumentException") rfl (by decide) (by decide) (fun G => c_F_addLamp_2 l hfl G d a b h0) (x := 1) rfl (fun G => c_M_addLamp_1 l G d a b hx)
  · exact s_of h 2 (by decide) (by decide) (E := "java/lang/IllegalStateException") rfl (by decide) (by decide) (fun G => c_F_addLamp_3 l hfl G d a b h0) (x := 2) rfl (fun G => c_M_addLamp_2 l G d a b ha hb hn2)
theorem s_removeLamp {l : Launch} {B : Nat} {d : xd} (hfl : l.stackTraces = false) (h : y_Z B d) (hB : B + 180 < 100000) (x : Int32) : y_S l B d yX11_removeLamp wsX11_removeLamp (fun G => [.ref (x_b G + 0), .int x]) ["java/lang/IndexOutOfBoundsException", "java/lang/IllegalStateException"] yX12_removeLamp wsX12_removeLamp (fun G => [.ref (x_b G + 175), .int x]) := by
  obtain ⟨n, w, q, z, t, hq, q8, hz, z8, hc⟩ := y_open h
  obtain ⟨⟨hn, hn2, hw, hw2, e5, e6, e7⟩, ⟨h8, h6, v3, v4, v5⟩, -, -⟩ := id t
  rcases o_rd x hn h8 with ⟨h0, i, hi, rfl, hp⟩ | ⟨h0, hx⟩ | ⟨h0, i, hi, rfl, hp⟩
  · obtain ⟨a, ha, hva⟩ := v5
    obtain ⟨-, -, -, -, b, hb, hvb⟩ := v3 i hi
    have hva : d 14 1 = nI a := hva
    have hvb : d 8 i = nI b := hvb
    have hab : a + b ≤ 99 := by
      rw [hva, hvb, nI_add] at hp
      exact (nI_leI (by omega) (by decide)).mp hp
    obtain ⟨n, rfl⟩ : ∃ j, n = j + 1 := ⟨n - 1, by omega⟩
    have hp2 : ¬ 99 < d 176 4 + d 176 (46 + i) := by
      rw [← (e5 i hi).2.2.2.2.2.1, ← e7.2.2.1]
      exact k2_nlt hp
    have hfr : y_fr (f_rem d 1 q z) (f_drop (f_rem d 1 q z) 1 (n + 1) i w) := fun k hk => by rw [f_drop_out (by omega) (by omega), f_dw_out (by omega)]
    obtain ⟨e6', e5'⟩ := y_at q8 hfr
    exact s_o h hq q8 hz z8 hfr (by rw [e6']; exact y_up (t_drop (y_rem t q8) hi ⟨a + b, hab, by rw [f_rem_out (by omega) q8, f_rem_out (by omega) q8]; exact (congr (congrArg HAdd.hAdd hva) hvb).trans (nI_add a b)⟩ (by omega)) (by omega)) (by decide) (by decide) (fun G => c_F_removeLamp l G d q z hq hz q8 z8 i (n + 1) hn h8 hi w hw h6 h0) (fun G => c_M_removeLamp l G _ z (by rw [e5']; exact hc) z8 i (n + 1) (by rw [e6']; exact hn2) h8 hi w (by rw [e6']; exact hw2) h6 (by rw [e6']; exact hp2)) rfl
  · exact s_of h 1 (by decide) (by decide) (E := "java/lang/IndexOutOfBoundsException") rfl (by decide) (by decide) (fun G => c_F_removeLamp_1 l hfl G d x n hn h8 h0) (x := 1) rfl (fun G => c_M_removeLamp_1 l G d x n hn2 h8 hx)
  · have hp2 : 99 < d 176 4 + d 176 (46 + i) := by
      rw [← (e5 i hi).2.2.2.2.2.1, ← e7.2.2.1]
      exact k2_lt hp
    exact s_of h 2 (by decide) (by decide) (E := "java/lang/IllegalStateException") rfl (by decide) (by decide) (fun G => c_F_removeLamp_3 l hfl G d (nI i) n hn h8 h0) (x := 2) rfl (fun G => c_M_removeLamp_2 l G d i n hn2 h8 hi hp2)
theorem s_setShares {l : Launch} {B : Nat} {d : xd} (hfl : l.stackTraces = false) (h : y_Z B d) (hB : B + 180 < 100000) (x v : Int32) : y_S l B d yX11_setShares wsX11_setShares (fun G => [.ref (x_b G + 0), .int x, .int v]) ["java/lang/IndexOutOfBoundsException", "java/lang/IllegalArgumentException"] yX12_setShares wsX12_setShares (fun G => [.ref (x_b G + 175), .int x, .int v]) := by
  obtain ⟨n, w, q, z, t, hq, q8, hz, z8, hc⟩ := y_open h
  obtain ⟨⟨hn, hn2, hw, hw2, e5, e6, e7⟩, ⟨h8, h6, v3, v4, v5⟩, -, -⟩ := id t
  rcases o_rl x v 9 hn h8 with ⟨h0, ⟨i, hi, rfl⟩, hv⟩ | ⟨h0, hx⟩ | ⟨h0, ⟨i, hi, rfl⟩, hv⟩
  · obtain ⟨v2, b3, b4, rfl⟩ := o_rng (lo := 1) (hi := 9) (by decide) (by decide) hv
    have hfr : y_fr (f_rem d 1 q z) (x_p (f_rem d 1 q z) 4 i (nI v2)) := fun k hk => by rw [x_p_ne (by omega)]
    obtain ⟨e6', e5'⟩ := y_at q8 hfr
    exact s_o h hq q8 hz z8 hfr (by rw [e6']; exact y_up (t_set3 (y_rem t q8) hi ⟨v2, b3, b4, rfl⟩) (by omega)) (by decide) (by decide) (fun G => c_F_setShares l G d q z hq hz q8 z8 _ i (by omega) h0) (fun G => c_M_setShares l G _ z (by rw [e5']; exact hc) z8 _ i n (by rw [e6']; exact hn2) h8 hi hv) (by rw [e6']; exact (e5 i hi).2.1)
  · exact s_of h 1 (by decide) (by decide) (E := "java/lang/IndexOutOfBoundsException") rfl (by decide) (by decide) (fun G => c_F_setShares_1 l hfl G d x v h0) (x := 1) rfl (fun G => c_M_setShares_1 l G d v x n hn2 h8 hx)
  · exact s_of h 2 (by decide) (by decide) (E := "java/lang/IllegalArgumentException") rfl (by decide) (by decide) (fun G => c_F_setShares_2 l hfl G d (nI i) v h0) (x := 2) rfl (fun G => c_M_setShares_2 l G d v i n hn2 h8 hi hv)
theorem s_setBrightness {l : Launch} {B : Nat} {d : xd} (hfl : l.stackTraces = false) (h : y_Z B d) (hB : B + 180 < 100000) (x v : Int32) : y_S l B d yX11_setBrightness wsX11_setBrightness (fun G => [.ref (x_b G + 0), .int x, .int v]) ["java/lang/IndexOutOfBoundsException", "java/lang/IllegalArgumentException"] yX12_setBrightness wsX12_setBrightness (fun G => [.ref (x_b G + 175), .int x, .int v]) := by
  obtain ⟨n, w, q, z, t, hq, q8, hz, z8, hc⟩ := y_open h
  obtain ⟨⟨hn, hn2, hw, hw2, e5, e6, e7⟩, ⟨h8, h6, v3, v4, v5⟩, -, -⟩ := id t
  rcases o_rl x v 5 hn h8 with ⟨h0, ⟨i, hi, rfl⟩, hv⟩ | ⟨h0, hx⟩ | ⟨h0, ⟨i, hi, rfl⟩, hv⟩
  · obtain ⟨v2, b3, b4, rfl⟩ := o_rng (lo := 1) (hi := 5) (by decide) (by decide) hv
    have hfr : y_fr (f_rem d 1 q z) (x_p (f_rem d 1 q z) 5 i (nI v2)) := fun k hk => by rw [x_p_ne (by omega)]
    obtain ⟨e6', e5'⟩ := y_at q8 hfr
    exact s_o h hq q8 hz z8 hfr (by rw [e6']; exact y_up (t_set4 (y_rem t q8) hi ⟨v2, b3, b4, rfl⟩) (by omega)) (by decide) (by decide) (fun G => c_F_setBrightness l G d q z hq hz q8 z8 _ i (by omega) h0) (fun G => c_M_setBrightness l G _ z (by rw [e5']; exact hc) z8 _ i n (by rw [e6']; exact hn2) h8 hi hv) (by rw [e6']; exact (e5 i hi).2.2.1)
  · exact s_of h 1 (by decide) (by decide) (E := "java/lang/IndexOutOfBoundsException") rfl (by decide) (by decide) (fun G => c_F_setBrightness_1 l hfl G d x v h0) (x := 1) rfl (fun G => c_M_setBrightness_1 l G d v x n hn2 h8 hx)
  · exact s_of h 2 (by decide) (by decide) (E := "java/lang/IllegalArgumentException") rfl (by decide) (by decide) (fun G => c_F_setBrightness_2 l hfl G d (nI i) v h0) (x := 2) rfl (fun G => c_M_setBrightness_2 l G d v i n hn2 h8 hi hv)
theorem s_switchOn {l : Launch} {B : Nat} {d : xd} (hfl : l.stackTraces = false) (h : y_Z B d) (hB : B + 180 < 100000) (x : Int32) : y_S l B d yX11_switchOn wsX11_switchOn (fun G => [.ref (x_b G + 0), .int x]) ["java/lang/IndexOutOfBoundsException"] yX12_switchOn wsX12_switchOn (fun G => [.ref (x_b G + 175), .int x]) := by
  obtain ⟨n, w, q, z, t, hq, q8, hz, z8, hc⟩ := y_open h
  obtain ⟨⟨hn, hn2, hw, hw2, e5, e6, e7⟩, ⟨h8, h6, v3, v4, v5⟩, -, -⟩ := id t
  by_cases hx : 0 ≤ x ∧ x < nI n
  · obtain ⟨i, hi, rfl⟩ := o_ix (by omega) hx
    have hfr : y_fr (f_rem d 1 q z) (x_p (f_rem d 1 q z) 6 i 1) := fun k hk => by rw [x_p_ne (by omega)]
    obtain ⟨e6', e5'⟩ := y_at q8 hfr
    exact s_o h hq q8 hz z8 hfr (by rw [e6']; exact y_up (t_on (y_rem t q8) hi) (by omega)) (by decide) (by decide) (fun G => c_F_switchOn l G d q z hq hz q8 z8 i n hn h8 hi) (fun G => c_M_switchOn l G _ z (by rw [e5']; exact hc) z8 i n (by rw [e6']; exact hn2) h8 hi) (by rw [e6']; exact o_swn (e5 i hi).2.2.2.1)
  · exact s_of h 1 (by decide) (by decide) (E := "java/lang/IndexOutOfBoundsException") rfl (by decide) (by decide) (fun G => c_F_switchOn_1 l hfl G d x n hn hx) (x := 1) rfl (fun G => c_M_switchOn_1 l G d x n hn2 h8 hx)
theorem s_switchOff {l : Launch} {B : Nat} {d : xd} (hfl : l.stackTraces = false) (h : y_Z B d) (hB : B + 180 < 100000) (x : Int32) : y_S l B d yX11_switchOff wsX11_switchOff (fun G => [.ref (x_b G + 0), .int x]) ["java/lang/IndexOutOfBoundsException"] yX12_switchOff wsX12_switchOff (fun G => [.ref (x_b G + 175), .int x]) := by
  obtain ⟨n, w, q, z, t, hq, q8, hz, z8, hc⟩ := y_open h
  obtain ⟨⟨hn, hn2, hw, hw2, e5, e6, e7⟩, ⟨h8, h6, v3, v4, v5⟩, -, -⟩ := id t
  by_cases hx : 0 ≤ x ∧ x < nI n
  · obtain ⟨i, hi, rfl⟩ := o_ix (by omega) hx
    have hfr : y_fr (f_rem d 1 q z) (x_p (f_rem d 1 q z) 6 i 0) := fun k hk => by rw [x_p_ne (by omega)]
    obtain ⟨e6', e5'⟩ := y_at q8 hfr
    exact s_o h hq q8 hz z8 hfr (by rw [e6']; exact y_up (t_off (y_rem t q8) hi) (by omega)) (by decide) (by decide) (fun G => c_F_switchOff l G d q z hq hz q8 z8 i n hn h8 hi) (fun G => c_M_switchOff l G _ z (by rw [e5']; exact hc) z8 i n (by rw [e6']; exact hn2) h8 hi) (by rw [e6']; exact o_swf (e5 i hi).2.2.2.1)
  · exact s_of h 1 (by decide) (by decide) (E := "java/lang/IndexOutOfBoundsException") rfl (by decide) (by decide) (fun G => c_F_switchOff_1 l hfl G d x n hn hx) (x := 1) rfl (fun G => c_M_switchOff_1 l G d x n hn2 h8 hx)
theorem s_deliverOil {l : Launch} {B : Nat} {d : xd} (hfl : l.stackTraces = false) (h : y_Z B d) (hB : B + 180 < 100000) (x : Int32) : y_S l B d yX11_deliverOil wsX11_deliverOil (fun G => [.ref (x_b G + 0), .int x]) ["java/lang/IllegalArgumentException", "java/lang/IllegalStateException"] yX12_deliverOil wsX12_deliverOil (fun G => [.ref (x_b G + 175), .int x]) := by
  obtain ⟨n, w, q, z, t, hq, q8, hz, z8, hc⟩ := y_open h
  obtain ⟨⟨hn, hn2, hw, hw2, e5, e6, e7⟩, ⟨h8, h6, v3, v4, v5⟩, -, -⟩ := id t
  rcases o_rdel x hn h8 with ⟨h0, hx, h1⟩ | ⟨h0, hx⟩ | ⟨h0, hx, rfl⟩
  · obtain ⟨a, b3, b4, rfl⟩ := o_rng (lo := 1) (hi := 200) (by decide) (by decide) hx
    obtain ⟨sh, s1, s2, s3⟩ := r_sh t.2.1
    have s4 : ∀ j, j < n → d 176 (14 + j) = nI (sh j) := fun j hj => (e5 j hj).2.1.symm.trans (s1 j hj)
    have tp := t_pour (a := 159) (a0 := a) (sh := sh) (y_rem (z := z) t q8) (by omega) (fun j hj => by rw [f_rem_out (by omega) q8]; exact s1 j hj) s2 (s3 h1) (by omega)
    have hfr : y_fr (f_rem d 1 q z) (f_pour (f_rem d 1 q z) 159 1 n a sh) := fun k hk => by rw [f_pour_out (by omega) (by omega) (by omega)]
    obtain ⟨e6', e5'⟩ := y_at q8 hfr
    exact s_o h hq q8 hz z8 hfr (by rw [e6']; exact y_up (tp.1) (by omega)) (by decide) (by decide) (fun G => c_F_deliverOil l G d q z hq hz q8 z8 n hn h8 a sh s1 s2 (s3 h1) (by omega) h0) (fun G => c_M_deliverOil l G _ z (by rw [e5']; exact hc) z8 a sh n (by rw [e6']; exact hn2) h8 h1 (fun j hj => by rw [e6']; exact s4 j hj) s2 (s3 h1) (by omega) hx) (by rw [e6', ← tp.2, f_rem_out (by omega) q8])
  · exact s_of h 1 (by decide) (by decide) (E := "java/lang/IllegalArgumentException") rfl (by decide) (by decide) (fun G => c_F_deliverOil_2 l hfl G d x h0) (x := 1) rfl (fun G => c_M_deliverOil_1 l G d x hx)
  · exact s_of h 2 (by decide) (by decide) (E := "java/lang/IllegalStateException") rfl (by decide) (by decide) (fun G => c_F_deliverOil_3 l hfl G d x h0) (x := 2) rfl (fun G => c_M_deliverOil_2 l G d x hx hn2)
theorem s_donateWicks {l : Launch} {B : Nat} {d : xd} (hfl : l.stackTraces = false) (h : y_Z B d) (hB : B + 180 < 100000) (u : Int32) : y_S l B d yX11_donateWicks wsX11_donateWicks (fun G => [.ref (x_b G + 0), .int u]) ["java/lang/IllegalArgumentException", "java/lang/IllegalStateException"] yX12_donateWicks wsX12_donateWicks (fun G => [.ref (x_b G + 175), .int u]) := by
  obtain ⟨n, w, q, z, t, hq, q8, hz, z8, hc⟩ := y_open h
  obtain ⟨⟨hn, hn2, hw, hw2, e5, e6, e7⟩, ⟨h8, h6, v3, v4, v5⟩, -, -⟩ := id t
  rcases o_rdon (d := d) u with ⟨h0, hx, hp⟩ | ⟨h0, hx⟩ | ⟨h0, hx, hp⟩
  · obtain ⟨u, b3, b4, rfl⟩ := o_rng (lo := 1) (hi := 50) (by decide) (by decide) hx
    obtain ⟨a, ha, hva⟩ := v5
    have hva : d 14 1 = nI a := hva
    have hab : a + u ≤ 99 := by
      rw [hva, nI_add] at hp
      exact (nI_leI (by omega) (by decide)).mp hp
    have hfr : y_fr (f_rem d 1 q z) (f_don (f_rem d 1 q z) 1 (nI u)) := fun k hk => by unfold f_don; rw [x_p_ne (by omega), x_p_ne (by omega)]
    obtain ⟨e6', e5'⟩ := y_at q8 hfr
    exact s_o h hq q8 hz z8 hfr (by rw [e6']; exact y_up (t_don (y_rem t q8) ⟨a, hab, by rw [f_rem_out (by omega) q8]; exact hva⟩) (by omega)) (by decide) (by decide) (fun G => c_F_donateWicks l G d q z hq hz q8 z8 _ h0) (fun G => c_M_donateWicks l G _ z (by rw [e5']; exact hc) z8 _ hx (by rw [e6', ← e7.2.2.1]; exact hp)) (by rw [e6', ← e7.2.2.1])
  · exact s_of h 1 (by decide) (by decide) (E := "java/lang/IllegalArgumentException") rfl (by decide) (by decide) (fun G => c_F_donateWicks_2 l hfl G d u h0) (x := 1) rfl (fun G => c_M_donateWicks_1 l G d u hx)
  · exact s_of h 2 (by decide) (by decide) (E := "java/lang/IllegalStateException") rfl (by decide) (by decide) (fun G => c_F_donateWicks_3 l hfl G d u h0) (x := 2) rfl (fun G => c_M_donateWicks_2 l G d u hx (by rw [← e7.2.2.1]; exact hp))
theorem s_giveWick {l : Launch} {B : Nat} {d : xd} (hfl : l.stackTraces = false) (h : y_Z B d) (hB : B + 180 < 100000) (x u : Int32) : y_S l B d yX11_giveWick wsX11_giveWick (fun G => [.ref (x_b G + 0), .int x, .int u]) ["java/lang/IndexOutOfBoundsException", "java/lang/IllegalArgumentException", "java/lang/IllegalStateException"] yX12_giveWick wsX12_giveWick (fun G => [.ref (x_b G + 175), .int x, .int u]) := by
  obtain ⟨n, w, q, z, t, hq, q8, hz, z8, hc⟩ := y_open h
  obtain ⟨⟨hn, hn2, hw, hw2, e5, e6, e7⟩, ⟨h8, h6, v3, v4, v5⟩, -, -⟩ := id t
  obtain ⟨a, ha, hva⟩ := v5
  have hva : d 14 1 = nI a := hva
  have hva2 : d 176 4 = nI a := e7.2.2.1.symm.trans hva
  rcases o_rgive x u hn h8 with ⟨h0, i, hi, rfl, hu, hp1, hp2⟩ | ⟨h0, hx⟩ | ⟨h0, ⟨i, hi, rfl⟩, hu⟩ | ⟨h0, i, hi, rfl, hu, hp⟩
  · obtain ⟨u, b3, b4, rfl⟩ := o_rng (lo := 1) (hi := 9) (by decide) (by decide) hu
    obtain ⟨-, -, -, -, b, hb, hvb⟩ := v3 i hi
    have hvb : d 8 i = nI b := hvb
    have hvb2 : d 176 (46 + i) = nI b := (e5 i hi).2.2.2.2.2.1.symm.trans hvb
    have h1 : u ≤ a := by
      rw [hva] at hp1
      rcases Nat.lt_or_ge a u with y | y
      · exact absurd (nI_lt y (by omega)) hp1
      · exact y
    have h2 : b + u ≤ 9 := by
      rw [hvb, nI_add] at hp2
      rcases Nat.lt_or_ge 9 (b + u) with y | y
      · exact absurd (nI_lt y (by omega)) hp2
      · exact y
    have g1 : d 176 (46 + i) + 1 * nI u = nI (b + u) := by rw [hvb2, Int32.one_mul, nI_add]
    have g2 : d 176 4 - 1 * nI u = nI (a - u) := by rw [hva2, Int32.one_mul, pk_sub h1]
    have g3 : d 176 (46 + i) + 1 * nI u = d 176 (46 + i) + nI u := by rw [Int32.one_mul]
    have g4 : d 176 4 - 1 * nI u = d 176 4 - nI u := by rw [Int32.one_mul]
    have hfr : y_fr (f_rem d 1 q z) (f_mvw (f_rem d 1 q z) 1 i (nI u)) := fun k hk => by unfold f_mvw; rw [x_p_ne (by omega), x_p_ne (by omega)]
    obtain ⟨e6', e5'⟩ := y_at q8 hfr
    exact s_o h hq q8 hz z8 hfr (by rw [e6', g3, g4]; exact y_up (t_mvw (y_rem t q8) hi ⟨b + u, h2, by rw [f_rem_out (by omega) q8]; show d 8 i + _ = _; rw [hvb, nI_add]⟩ ⟨a - u, by omega, by rw [f_rem_out (by omega) q8]; show d 14 1 - _ = _; rw [hva, pk_sub h1]⟩) (by omega)) (by decide) (by decide) (fun G => c_F_giveWick l G d q z hq hz q8 z8 _ i n hn h8 hi h0) (fun G => c_M_giveWick l G _ z (by rw [e5']; exact hc) z8 _ i n (by rw [e6']; exact hn2) h8 hi hu (by rw [e6', g1]; exact ⟨nI_pos' (by omega), (nI_leI (by omega) (by decide)).mpr h2⟩) (by rw [e6', g2]; exact ⟨nI_pos' (by omega), (nI_leI (b := 99) (by omega) (by decide)).mpr (by omega)⟩)) (by rw [e6', g1, hvb, nI_add])
  · exact s_of h 1 (by decide) (by decide) (E := "java/lang/IndexOutOfBoundsException") rfl (by decide) (by decide) (fun G => c_F_giveWick_1 l hfl G d x u n hn h8 h0) (x := 1) rfl (fun G => c_M_giveWick_1 l G d u x n hn2 h8 hx)
  · exact s_of h 2 (by decide) (by decide) (E := "java/lang/IllegalArgumentException") rfl (by decide) (by decide) (fun G => c_F_giveWick_2 l hfl G d (nI i) u n hn h8 h0) (x := 2) rfl (fun G => c_M_giveWick_2 l G d u i n hn2 h8 hi hu)
  · obtain ⟨u, b3, b4, rfl⟩ := o_rng (lo := 1) (hi := 9) (by decide) (by decide) hu
    obtain ⟨-, -, -, -, b, hb, hvb⟩ := v3 i hi
    have hvb : d 8 i = nI b := hvb
    have hvb2 : d 176 (46 + i) = nI b := (e5 i hi).2.2.2.2.2.1.symm.trans hvb
    have hno : ¬ ((0 ≤ d 176 (46 + i) + 1 * nI u ∧ d 176 (46 + i) + 1 * nI u ≤ 9) ∧ (0 ≤ d 176 4 - 1 * nI u ∧ d 176 4 - 1 * nI u ≤ 99)) := by
      rw [hvb2, hva2, Int32.one_mul, nI_add]
      intro y
      rcases hp with hp | hp
      · rw [hva] at hp
        have hlt : a < u := (nI_ltI (by omega) (by omega)).mp hp
        exact absurd y.2.1 (k2_nle (pk_sneg (by omega) hlt))
      · rw [hvb, nI_add] at hp
        exact absurd y.1.2 (k2_nle hp)
    exact s_of h 3 (by decide) (by decide) (E := "java/lang/IllegalStateException") rfl (by decide) (by decide) (fun G => c_F_giveWick_3 l hfl G d (nI i) (nI u) n hn h8 h0) (x := 3) rfl (fun G => c_M_giveWick_3 l G d (nI u) i n hn2 h8 hi hu hno)
theorem s_returnWick {l : Launch} {B : Nat} {d : xd} (hfl : l.stackTraces = false) (h : y_Z B d) (hB : B + 180 < 100000) (x u : Int32) : y_S l B d yX11_returnWick wsX11_returnWick (fun G => [.ref (x_b G + 0), .int x, .int u]) ["java/lang/IndexOutOfBoundsException", "java/lang/IllegalArgumentException", "java/lang/IllegalStateException"] yX12_returnWick wsX12_returnWick (fun G => [.ref (x_b G + 175), .int x, .int u]) := by
  obtain ⟨n, w, q, z, t, hq, q8, hz, z8, hc⟩ := y_open h
  obtain ⟨⟨hn, hn2, hw, hw2, e5, e6, e7⟩, ⟨h8, h6, v3, v4, v5⟩, -, -⟩ := id t
  obtain ⟨a, ha, hva⟩ := v5
  have hva : d 14 1 = nI a := hva
  have hva2 : d 176 4 = nI a := e7.2.2.1.symm.trans hva
  rcases o_rret x u hn h8 with ⟨h0, i, hi, rfl, hu, hp1, hp2⟩ | ⟨h0, hx⟩ | ⟨h0, ⟨i, hi, rfl⟩, hu⟩ | ⟨h0, i, hi, rfl, hu, hp⟩
  · obtain ⟨u, b3, b4, rfl⟩ := o_rng (lo := 1) (hi := 9) (by decide) (by decide) hu
    obtain ⟨-, -, -, -, b, hb, hvb⟩ := v3 i hi
    have hvb : d 8 i = nI b := hvb
    have hvb2 : d 176 (46 + i) = nI b := (e5 i hi).2.2.2.2.2.1.symm.trans hvb
    have h1 : u ≤ b := by
      rw [hvb] at hp1
      rcases Nat.lt_or_ge b u with y | y
      · exact absurd (nI_lt y (by omega)) hp1
      · exact y
    have h2 : a + u ≤ 99 := by
      rw [hva, nI_add] at hp2
      rcases Nat.lt_or_ge 99 (a + u) with y | y
      · exact absurd (nI_lt y (by omega)) hp2
      · exact y
    have m1 : ∀ x y : Int32, x + (-1) * y = x + -y := fun x y => by grind
    have m2 : ∀ x y : Int32, x - (-1) * y = x - -y := fun x y => by grind
    have m3 : ∀ x y : Int32, x - -y = x + y := fun x y => by grind
    have m4 : ∀ x y : Int32, x + -y = x - y := fun x y => by grind
    have g1 : d 176 (46 + i) + (-1) * nI u = nI (b - u) := by rw [m1, m4, hvb2, pk_sub h1]
    have g2 : d 176 4 - (-1) * nI u = nI (a + u) := by rw [m2, m3, hva2, nI_add]
    have hfr : y_fr (f_rem d 1 q z) (f_mvw (f_rem d 1 q z) 1 i (-(nI u))) := fun k hk => by unfold f_mvw; rw [x_p_ne (by omega), x_p_ne (by omega)]
    obtain ⟨e6', e5'⟩ := y_at q8 hfr
    exact s_o h hq q8 hz z8 hfr (by rw [e6', m1, m2]; exact y_up (t_mvw (y_rem t q8) hi ⟨b - u, by omega, by rw [f_rem_out (by omega) q8]; show d 8 i + _ = _; rw [hvb, m4, pk_sub h1]⟩ ⟨a + u, h2, by rw [f_rem_out (by omega) q8]; show d 14 1 - _ = _; rw [hva, m3, nI_add]⟩) (by omega)) (by decide) (by decide) (fun G => c_F_returnWick l G d q z hq hz q8 z8 _ i n hn h8 hi h0) (fun G => c_M_returnWick l G _ z (by rw [e5']; exact hc) z8 _ i n (by rw [e6']; exact hn2) h8 hi hu (by rw [e6', g1]; exact ⟨nI_pos' (by omega), (nI_leI (b := 9) (by omega) (by decide)).mpr (by omega)⟩) (by rw [e6', g2]; exact ⟨nI_pos' (by omega), (nI_leI (b := 99) (by omega) (by decide)).mpr (by omega)⟩)) (by rw [e6', g1, hvb, m4, pk_sub h1])
  · exact s_of h 1 (by decide) (by decide) (E := "java/lang/IndexOutOfBoundsException") rfl (by decide) (by decide) (fun G => c_F_returnWick_1 l hfl G d x u n hn h8 h0) (x := 1) rfl (fun G => c_M_returnWick_1 l G d u x n hn2 h8 hx)
  · exact s_of h 2 (by decide) (by decide) (E := "java/lang/IllegalArgumentException") rfl (by decide) (by decide) (fun G => c_F_returnWick_2 l hfl G d (nI i) u n hn h8 h0) (x := 2) rfl (fun G => c_M_returnWick_2 l G d u i n hn2 h8 hi hu)
  · obtain ⟨u, b3, b4, rfl⟩ := o_rng (lo := 1) (hi := 9) (by decide) (by decide) hu
    obtain ⟨-, -, -, -, b, hb, hvb⟩ := v3 i hi
    have hvb : d 8 i = nI b := hvb
    have hvb2 : d 176 (46 + i) = nI b := (e5 i hi).2.2.2.2.2.1.symm.trans hvb
    have m1 : ∀ x y : Int32, x + (-1) * y = x - y := fun x y => by grind
    have m2 : ∀ x y : Int32, x - (-1) * y = x + y := fun x y => by grind
    have hno : ¬ ((0 ≤ d 176 (46 + i) + (-1) * nI u ∧ d 176 (46 + i) + (-1) * nI u ≤ 9) ∧ (0 ≤ d 176 4 - (-1) * nI u ∧ d 176 4 - (-1) * nI u ≤ 99)) := by
      rw [m1, m2, hvb2, hva2, nI_add]
      intro y
      rcases hp with hp | hp
      · rw [hvb] at hp
        have hlt : b < u := (nI_ltI (by omega) (by omega)).mp hp
        exact absurd y.1.1 (k2_nle (pk_sneg (by omega) hlt))
      · rw [hva, nI_add] at hp
        exact absurd y.2.2 (k2_nle hp)
    exact s_of h 3 (by decide) (by decide) (E := "java/lang/IllegalStateException") rfl (by decide) (by decide) (fun G => c_F_returnWick_3 l hfl G d (nI i) (nI u) n hn h8 h0) (x := 3) rfl (fun G => c_M_returnWick_3 l G d (nI u) i n hn2 h8 hi hu hno)
theorem s_buyOil {l : Launch} {B : Nat} {d : xd} (hfl : l.stackTraces = false) (h : y_Z B d) (hB : B + 180 < 100000) (x u : Int32) : y_S l B d yX11_buyOil wsX11_buyOil (fun G => [.ref (x_b G + 0), .int x, .int u]) ["java/lang/IndexOutOfBoundsException", "java/lang/IllegalArgumentException", "java/lang/IllegalStateException"] yX12_buyOil wsX12_buyOil (fun G => [.ref (x_b G + 175), .int x, .int u]) := by
  obtain ⟨n, w, q, z, t, hq, q8, hz, z8, hc⟩ := y_open h
  obtain ⟨⟨hn, hn2, hw, hw2, e5, e6, e7⟩, ⟨h8, h6, v3, v4, v5⟩, -, -⟩ := id t
  rcases o_rbuy x u hn h8 with ⟨h0, i, hi, rfl, hu, hp1, hp2, hp3⟩ | ⟨h0, hx⟩ | ⟨h0, ⟨i, hi, rfl⟩, hu⟩ | ⟨h0, i, hi, rfl, hu, hp⟩
  · obtain ⟨u, b3, b4, rfl⟩ := o_rng (lo := 1) (hi := 60) (by decide) (by decide) hu
    obtain ⟨-, -, -, ⟨a, ha, hva⟩, -⟩ := v3 i hi
    have hva : d 7 i = nI a := hva
    have f1 : d 7 i = d 176 (38 + i) := (e5 i hi).2.2.2.2.1
    have f2 : d 9 i = d 176 (54 + i) := (e5 i hi).2.2.2.2.2.2
    have f3 : d 14 0 = d 176 3 := e7.2.1
    have h1 : a + u ≤ 60 := by
      rw [hva, show (60 : Int32) = nI 60 from rfl, pk_sub ha] at hp2
      rcases Nat.lt_or_ge (60 - a) u with y | y
      · exact absurd (nI_lt y (by omega)) hp2
      · omega
    have hfr : y_fr (f_rem d 1 q z) (f_sell (f_rem d 1 q z) 1 i (nI u)) := fun k hk => by unfold f_sell; rw [x_p_ne (by omega), x_p_ne (by omega), x_p_ne (by omega), x_p_ne (by omega)]
    obtain ⟨e6', e5'⟩ := y_at q8 hfr
    exact s_o h hq q8 hz z8 hfr (by rw [e6']; exact y_up (t_sell (y_rem t q8) hi ⟨a, h1, by rw [f_rem_out (by omega) q8]; exact hva⟩ (by rw [f_rem_out (by omega) q8]; exact hp3) (by omega) b4) (by omega)) (by decide) (by decide) (fun G => c_F_buyOil l G d q z hq hz q8 z8 _ i n hn h8 hi h0) (fun G => c_M_buyOil l G _ z (by rw [e5']; exact hc) z8 _ i n (by rw [e6']; exact hn2) h8 hi hu (by rw [e6', ← f1, ← f2, ← f3]; exact ⟨hp1, by rw [hva, nI_add]; exact (nI_leI (by omega) (by decide)).mpr h1, hp3⟩)) (by rw [e6', f1])
  · exact s_of h 1 (by decide) (by decide) (E := "java/lang/IndexOutOfBoundsException") rfl (by decide) (by decide) (fun G => c_F_buyOil_1 l hfl G d x u n hn h8 h0) (x := 1) rfl (fun G => c_M_buyOil_1 l G d u x n hn2 h8 hx)
  · exact s_of h 2 (by decide) (by decide) (E := "java/lang/IllegalArgumentException") rfl (by decide) (by decide) (fun G => c_F_buyOil_2 l hfl G d (nI i) u n hn h8 h0) (x := 2) rfl (fun G => c_M_buyOil_2 l G d u i n hn2 h8 hi hu)
  · obtain ⟨u, b3, b4, rfl⟩ := o_rng (lo := 1) (hi := 60) (by decide) (by decide) hu
    obtain ⟨-, -, -, ⟨a, ha, hva⟩, -⟩ := v3 i hi
    have hva : d 7 i = nI a := hva
    have f1 : d 7 i = d 176 (38 + i) := (e5 i hi).2.2.2.2.1
    have f2 : d 9 i = d 176 (54 + i) := (e5 i hi).2.2.2.2.2.2
    have f3 : d 14 0 = d 176 3 := e7.2.1
    have hno : ¬ (¬ d 176 3 < nI u ∧ d 176 (38 + i) + nI u ≤ 60 ∧ ¬ d 176 (54 + i) < nI u) := by
      rw [← f1, ← f2, ← f3]
      intro y
      rcases hp with hp | hp | hp
      · exact y.1 hp
      · rw [hva, show (60 : Int32) = nI 60 from rfl, pk_sub ha] at hp
        have hlt := (nI_ltI (by omega) (by omega)).mp hp
        have y2 := y.2.1
        rw [hva, nI_add] at y2
        have := (nI_leI (b := 60) (by omega) (by decide)).mp y2
        omega
      · exact y.2.2 hp
    exact s_of h 3 (by decide) (by decide) (E := "java/lang/IllegalStateException") rfl (by decide) (by decide) (fun G => c_F_buyOil_3 l hfl G d (nI i) (nI u) n hn h8 h0) (x := 3) rfl (fun G => c_M_buyOil_3 l G d (nI u) i n hn2 h8 hi hu hno)
theorem s_addMoth {l : Launch} {B : Nat} {d : xd} (hfl : l.stackTraces = false) (h : y_Z B d) (hB : B + 180 < 100000) (x : Int32) : y_S l B d yX11_addMoth wsX11_addMoth (fun G => [.ref (x_b G + 0), .int x]) ["java/lang/IndexOutOfBoundsException", "java/lang/IllegalStateException"] yX12_addMoth wsX12_addMoth (fun G => [.ref (x_b G + 175), .int x]) := by
  obtain ⟨n, w, q, z, t, hq, q8, hz, z8, hc⟩ := y_open h
  obtain ⟨⟨hn, hn2, hw, hw2, e5, e6, e7⟩, ⟨h8, h6, v3, v4, v5⟩, -, -⟩ := id t
  rcases o_ram x hn h8 hw h6 with ⟨h0, ⟨i, hi, rfl⟩, hw6⟩ | ⟨h0, hx⟩ | ⟨h0, ⟨i, hi, rfl⟩, rfl⟩
  · have hfr : y_fr (f_rem d 1 q z) (f_appm (f_rem d 1 q z) 1 w (nI i)) := fun k hk => by unfold f_appm; rw [x_p_ne (by omega), x_p_ne (by omega), x_p_ne (by omega), x_p_ne (by omega)]
    obtain ⟨e6', e5'⟩ := y_at q8 hfr
    exact s_o h hq q8 hz z8 hfr (by rw [e6']; exact y_up (t_adm (y_rem t q8) hi hw6) (by omega)) (by decide) (by decide) (fun G => c_F_addMoth l G d q z hq hz q8 z8 _ w hw hw6 h0) (fun G => c_M_addMoth l G _ z (by rw [e5']; exact hc) z8 i n (by rw [e6']; exact hn2) h8 hi w (by rw [e6']; exact hw2) hw6) rfl
  · exact s_of h 1 (by decide) (by decide) (E := "java/lang/IndexOutOfBoundsException") rfl (by decide) (by decide) (fun G => c_F_addMoth_1 l hfl G d x h0) (x := 1) rfl (fun G => c_M_addMoth_1 l G d x n hn2 h8 hx)
  · exact s_of h 2 (by decide) (by decide) (E := "java/lang/IllegalStateException") rfl (by decide) (by decide) (fun G => c_F_addMoth_3 l hfl G d (nI i) h0) (x := 2) rfl (fun G => c_M_addMoth_2 l G d i n hn2 h8 hi hw2)
theorem s_moveMoth {l : Launch} {B : Nat} {d : xd} (hfl : l.stackTraces = false) (h : y_Z B d) (hB : B + 180 < 100000) (x u : Int32) : y_S l B d yX11_moveMoth wsX11_moveMoth (fun G => [.ref (x_b G + 0), .int x, .int u]) ["java/lang/IndexOutOfBoundsException"] yX12_moveMoth wsX12_moveMoth (fun G => [.ref (x_b G + 175), .int x, .int u]) := by
  obtain ⟨n, w, q, z, t, hq, q8, hz, z8, hc⟩ := y_open h
  obtain ⟨⟨hn, hn2, hw, hw2, e5, e6, e7⟩, ⟨h8, h6, v3, v4, v5⟩, -, -⟩ := id t
  by_cases hx : 0 ≤ x ∧ x < nI w
  · obtain ⟨i, hi, rfl⟩ := o_ix (by omega) hx
    by_cases hu : (0 ≤ u ∧ u < nI n) ∨ u = -1
    · have hv : u = -1 ∨ ∃ j, j < n ∧ u = nI j := by
        rcases hu with hu | hu
        · exact Or.inr (o_ix (by omega) hu)
        · exact Or.inl hu
      have hfr : y_fr (f_rem d 1 q z) (x_p (f_rem d 1 q z) 11 i u) := fun k hk => by rw [x_p_ne (by omega)]
      obtain ⟨e6', e5'⟩ := y_at q8 hfr
      exact s_o h hq q8 hz z8 hfr (by rw [e6']; exact y_up (t_mvm (y_rem t q8) hi hv) (by omega)) (by decide) (by decide) (fun G => c_F_moveMoth l G d q z hq hz q8 z8 i w hw h6 hi u n hn h8 hu) (fun G => c_M_moveMoth l G _ z (by rw [e5']; exact hc) z8 i w (by rw [e6']; exact hw2) h6 hi u n (by rw [e6']; exact hn2) h8 hu) (by rw [e6']; exact (e6 i hi).1)
    · exact s_of h 1 (by decide) (by decide) (E := "java/lang/IndexOutOfBoundsException") rfl (by decide) (by decide) (fun G => c_F_moveMoth_2 l hfl G d i w hw h6 hi u n hn (fun y => hu (Or.inl y)) (fun y => hu (Or.inr y))) (x := 1) rfl (fun G => c_M_moveMoth_2 l G d i w hw2 h6 hi u n hn2 h8 (fun y => hu (Or.inl y)) (fun y => hu (Or.inr y)))
  · exact s_of h 1 (by decide) (by decide) (E := "java/lang/IndexOutOfBoundsException") rfl (by decide) (by decide) (fun G => c_F_moveMoth_1 l hfl G d x w hw hx u) (x := 1) rfl (fun G => c_M_moveMoth_1 l G d x w hw2 h6 hx u)
theorem s_proposeCap {l : Launch} {B : Nat} {d : xd} (hfl : l.stackTraces = false) (h : y_Z B d) (hB : B + 180 < 100000) (x : Int32) : y_S l B d yX11_proposeCap wsX11_proposeCap (fun G => [.ref (x_b G + 0), .int x]) ["java/lang/IllegalArgumentException", "java/lang/IllegalStateException"] yX12_proposeCap wsX12_proposeCap (fun G => [.ref (x_b G + 175), .int x]) := by
  obtain ⟨n, w, q, z, t, hq, q8, hz, z8, hc⟩ := y_open h
  obtain ⟨⟨hn, hn2, hw, hw2, e5, e6, e7⟩, ⟨h8, h6, v3, v4, v5⟩, -, -⟩ := id t
  rcases o_rpro x hn h8 with ⟨h0, hx, h1⟩ | ⟨h0, hx⟩ | ⟨h0, hx, rfl⟩
  · have hwc := o_wc (x := x) (y_rem (z := z) t q8)
    by_cases hy : g_car (d 176) n x = true
    · obtain ⟨x, b3, b4, rfl⟩ := o_rng (lo := 1) (hi := 5) (by decide) (by decide) hx
      have hfr : y_fr (f_rem d 1 q z) (x_r (f_rem d 1 q z) 5 (f_cap ((f_rem d 1 q z) 5) (nI x) n)) := fun k hk => by rw [x_r_ne2 (by omega)]
      obtain ⟨e6', e5'⟩ := y_at q8 hfr
      exact s_o h hq q8 hz z8 hfr (by rw [e6']; exact y_up (t_cap (y_rem t q8) ⟨b3, b4⟩) (by omega)) (by decide) (by decide) (fun G => c_F_proposeCap l G d q z hq hz q8 z8 _ n hn h8 (hwc.trans hy) h0) (fun G => c_M_proposeCap l G _ z (by rw [e5']; exact hc) z8 _ hx n (by rw [e6']; exact hn2) h8 h1 (by rw [e6']; exact hy)) rfl
    · have hfr : y_fr (f_rem d 1 q z) (f_rem d 1 q z) := fun _ _ => rfl
      obtain ⟨e6', e5'⟩ := y_at q8 hfr
      exact s_o (lv2 := 5) h hq q8 hz z8 hfr (g := f_rem d 1 q z 176) (by rw [e6']; exact y_up (y_rem t q8) (by omega)) (by decide) (by decide) (fun G => c_F_proposeCap_n l G d q z hq hz q8 z8 x n hn h8 (by rw [hwc]; exact hy) h0) (fun G => by rw [g_ok_same]; exact c_M_proposeCap_n l G _ z (by rw [e5']; exact hc) z8 x hx n (by rw [e6']; exact hn2) h8 h1 (by rw [e6']; exact hy)) rfl
  · exact s_of h 1 (by decide) (by decide) (E := "java/lang/IllegalArgumentException") rfl (by decide) (by decide) (fun G => c_F_proposeCap_2 l hfl G d x h0) (x := 1) rfl (fun G => c_M_proposeCap_1 l G d x hx)
  · exact s_of h 2 (by decide) (by decide) (E := "java/lang/IllegalStateException") rfl (by decide) (by decide) (fun G => c_F_proposeCap_3 l hfl G d x h0) (x := 2) rfl (fun G => c_M_proposeCap_2 l G d x hx hn2)
theorem s_payDividend {l : Launch} {B : Nat} {d : xd} (hfl : l.stackTraces = false) (h : y_Z B d) (hB : B + 180 < 100000) : y_S l B d yX11_payDividend wsX11_payDividend (fun G => [.ref (x_b G + 0)]) ["java/lang/IllegalStateException"] yX12_payDividend wsX12_payDividend (fun G => [.ref (x_b G + 175)]) := by
  obtain ⟨n, w, q, z, t, hq, q8, hz, z8, hc⟩ := y_open h
  obtain ⟨⟨hn, hn2, hw, hw2, e5, e6, e7⟩, ⟨h8, h6, v3, v4, v5⟩, -, -⟩ := id t
  have hm := t.2.2.1
  obtain ⟨b9, t9, m1, m2, m3⟩ := hm
  have m2 : d 14 2 = nI t9 := m2
  have f3 : d 14 2 = d 176 5 := e7.2.2.2
  rcases o_rpay hn h8 with ⟨h0, h1, hx⟩ | ⟨h0, hx⟩
  · obtain ⟨sh, s1, s2, s3⟩ := r_sh t.2.1
    have s4 : ∀ j, j < n → d 176 (14 + j) = nI (sh j) := fun j hj => (e5 j hj).2.1.symm.trans (s1 j hj)
    have ht1 : 1 ≤ t9 := by
      rcases Nat.eq_zero_or_pos t9 with y | y
      · subst y
        exact absurd m2 hx
      · exact y
    have hfr : y_fr (f_rem d 1 q z) (f_shr (f_rem d 1 q z) 159 1 n t9 sh) := fun k hk => by rw [f_shr_out (by omega) (by omega) (by omega)]
    obtain ⟨e6', e5'⟩ := y_at q8 hfr
    exact s_o h hq q8 hz z8 hfr (by rw [e6']; exact y_up (t_pay (a := 159) (a0 := t9) (sh := sh) (y_rem (z := z) t q8) (by omega) (fun j hj => by rw [f_rem_out (by omega) q8]; exact s1 j hj) s2 (s3 h1) (by omega) (by rw [f_rem_out (by omega) q8]; exact m2) (by omega)) (by omega)) (by decide) (by decide) (fun G => c_F_payDividend l G d q z hq hz q8 z8 n hn h8 t9 sh s1 s2 (s3 h1) (by omega) m2 h0) (fun G => c_M_payDividend l G _ z (by rw [e5']; exact hc) z8 t9 sh n (by rw [e6']; exact hn2) h8 h1 (fun j hj => by rw [e6']; exact s4 j hj) s2 (s3 h1) (by omega) (by rw [e6', ← f3]; exact m2) ht1) rfl
  · exact s_of h 1 (by decide) (by decide) (E := "java/lang/IllegalStateException") rfl (by decide) (by decide) (fun G => c_F_payDividend_3 l hfl G d h0) (x := 1) rfl (fun G => c_M_payDividend_1 l G d (hx.elim (fun y => Or.inl (by rw [hn2, y]; rfl)) (fun y => Or.inr (f3.symm.trans y))))
