/-! the state of an object as one row of numbers z, the states before it hs (what can be undone, newest first) -/
def q_H (B : Nat) (d : xd) (hs : List (Nat → Int32)) : Prop := ∃ q, d 43 1 = nI q ∧ q < 8 ∧ d 43 0 = nI hs.length ∧ hs.length ≤ 8 ∧ ∀ (j : Nat) (z : Nat → Int32), hs[j]? = some z → r_S B d (45 + 14 * ((q + 7 - j) % 8)) z
def q_R (B : Nat) (d : xd) (z : Nat → Int32) (hs : List (Nat → Int32)) : Prop := r_S B d 1 z ∧ q_H B d hs
/-- what a change of the state leaves alone -/
def q_k (d d1 : xd) : Prop := ∀ k, (k = 0 ∨ (29 ≤ k ∧ k ≤ 42) ∨ (168 ≤ k ∧ k ≤ 172)) → d1 k = d k
theorem q_k_refl (d : xd) : q_k d d := fun _ _ => rfl
theorem q_k_trans {d d1 d2 : xd} (h : q_k d d1) (h2 : q_k d1 d2) : q_k d d2 := fun k hk => (h2 k hk).trans (h k hk)
def q_push (z : Nat → Int32) (hs : List (Nat → Int32)) : List (Nat → Int32) := (z :: hs).take 8
theorem q_H_like {B B2 : Nat} {d d1 : xd} {hs : List (Nat → Int32)} (h : q_H B d hs) (hr : ∀ k, 43 ≤ k → k ≤ 156 → d1 k = d k) (hB : B ≤ B2) : q_H B2 d1 hs := by
  obtain ⟨q, e1, e2, e3, e4, e5⟩ := h
  refine ⟨q, by rw [hr 43 (by omega) (by omega)]; exact e1, e2, by rw [hr 43 (by omega) (by omega)]; exact e3, e4, fun j z hj => ?_⟩
  have hlt : (q + 7 - j) % 8 < 8 := Nat.mod_lt _ (by omega)
  exact r_S_like (e5 j z hj) (r_rows (fun k hk hk2 => hr k (by omega) (by omega))) (fun _ _ => rfl) hB
theorem q_R_like {B B2 : Nat} {d d1 : xd} {z : Nat → Int32} {hs : List (Nat → Int32)} (h : q_R B d z hs) (h1 : ∀ k, 2 ≤ k → k ≤ 14 → d1 k = d k) (hr : ∀ k, 43 ≤ k → k ≤ 156 → d1 k = d k) (hB : B ≤ B2) : q_R B2 d1 z hs :=
  ⟨r_S_like h.1 (r_rows (fun k hk hk2 => h1 k (by omega) (by omega))) (fun _ _ => rfl) hB, q_H_like h.2 hr hB⟩
theorem q_R_up {B B2 : Nat} {d : xd} {z : Nat → Int32} {hs : List (Nat → Int32)} (h : q_R B d z hs) (hB : B ≤ B2) : q_R B2 d z hs := q_R_like h (fun _ _ _ => rfl) (fun _ _ _ => rfl) hB
/-- other words for the same numbers -/
theorem q_R_z {B : Nat} {d : xd} {z z2 : Nat → Int32} {hs : List (Nat → Int32)} (h : q_R B d z hs) (hz : ∀ k, k < 80 → z2 k = z k) : q_R B d z2 hs := ⟨r_S_like h.1 (r_rows (fun _ _ _ => rfl)) hz (Nat.le_refl _), h.2⟩
theorem q_opx {B B2 : Nat} {d d1 : xd} {z g : Nat → Int32} {hs : List (Nat → Int32)} {q w : Nat} (h : q_R B d z hs) (hB : B ≤ B2) (hq : d 43 1 = nI q) (q8 : q < 8) (hz : d 43 0 = nI w) (z8 : w ≤ 8)
    (hA : ∀ k, 45 ≤ k → k ≤ 156 → (k < 45 + 14 * q + 1 ∨ 45 + 14 * q + 13 < k) → d1 k = d k) (h43 : d1 43 1 = nI ((q + 1) % 8) ∧ d1 43 0 = nI (min (w + 1) 8)) (hC : r_like d 1 d1 (45 + 14 * q)) (hs1 : r_S B2 d1 1 g) : q_R B2 d1 g (q_push z hs) := by
  obtain ⟨a1, q2, e1, e2, e3, e4, e5⟩ := h
  have hqq : q2 = q := (nI_eq (by omega) (by omega)).mp (e1.symm.trans hq)
  have hzz : hs.length = w := (nI_eq (by omega) (by omega)).mp (e3.symm.trans hz)
  subst hqq
  have hlen : (q_push z hs).length = min (w + 1) 8 := by
    unfold q_push
    rw [List.length_take, List.length_cons, hzz]
    omega
  refine ⟨hs1, (q2 + 1) % 8, h43.1, Nat.mod_lt _ (by omega), by rw [hlen]; exact h43.2, by rw [hlen]; omega, fun j z9 hj => ?_⟩
  have hj8 : j < 8 := by
    have h9 := (List.getElem?_eq_some_iff.mp hj).1
    rw [hlen] at h9
    omega
  unfold q_push at hj
  rw [List.getElem?_take, if_pos hj8] at hj
  cases j with
  | zero =>
    rw [List.getElem?_cons_zero] at hj
    have e := Option.some.inj hj
    subst e
    rw [show ((q2 + 1) % 8 + 7 - 0) % 8 = q2 by omega]
    exact r_S_like a1 hC (fun _ _ => rfl) hB
  | succ j =>
    rw [List.getElem?_cons_succ] at hj
    rw [show ((q2 + 1) % 8 + 7 - (j + 1)) % 8 = (q2 + 7 - j) % 8 by omega]
    have hne : (q2 + 7 - j) % 8 ≠ q2 := by omega
    have hlt : (q2 + 7 - j) % 8 < 8 := Nat.mod_lt _ (by omega)
    exact r_S_like (e5 j z9 hj) (r_rows (fun k hk hk2 => hA k (by omega) (by omega) (by omega))) (fun _ _ => rfl) hB
theorem q_op {B B2 : Nat} {d d1 : xd} {z g : Nat → Int32} {hs : List (Nat → Int32)} {q w : Nat} (h : q_R B d z hs) (hB : B ≤ B2) (hq : d 43 1 = nI q) (q8 : q < 8) (hz : d 43 0 = nI w) (z8 : w ≤ 8) (hfr : y_fr (f_rem d 1 q w) d1) (hs1 : r_S B2 d1 1 g) : q_R B2 d1 g (q_push z hs) ∧ q_k d d1 := by
  refine ⟨q_opx h hB hq q8 hz z8 (fun k h1 h2 h3 => ?_) ?_ ?_ hs1, fun k hk => ?_⟩
  · rw [hfr k (by omega), f_rem_in (by omega), f_cps_out (by omega)]
  · rw [hfr 43 (by omega)]
    exact f_rem_43 q8
  · exact r_like_trans (r_copy (d := d) (o := 45 + 14 * q) (o2 := 1) (by omega)) (r_rows (fun k h1 h2 => by rw [hfr k (by omega), f_rem_in (by omega)]))
  · rw [hfr k (by omega), f_rem_out (by omega) q8]
theorem q_open {B : Nat} {d : xd} {z : Nat → Int32} {hs : List (Nat → Int32)} (h : q_R B d z hs) : ∃ n w q v, r_T B d 1 z n w ∧ d 43 1 = nI q ∧ q < 8 ∧ d 43 0 = nI v ∧ v ≤ 8 := by
  obtain ⟨⟨n, w, t⟩, q, e1, e2, e3, e4, -⟩ := h
  exact ⟨n, w, q, _, t, e1, e2, e3, e4⟩
/-- what a change answers: the exception or none; the answer; the state behind it -/
abbrev q_O : Type := Option String × Int32 × (Nat → Int32)
abbrev q_eI : String := "java/lang/IndexOutOfBoundsException"
abbrev q_eA : String := "java/lang/IllegalArgumentException"
abbrev q_eS : String := "java/lang/IllegalStateException"
def q_C (l : Launch) (B : Nat) (d : xd) (z : Nat → Int32) (hs : List (Nat → Int32)) (y : MethodName) (ws : List Cond) (av : xG → List Value) (o : q_O) : Prop :=
  (∃ (E : String) (lv : Nat), o.1 = some E ∧ (E = q_eI ∨ E = q_eA ∨ E = q_eS) ∧ lv ≤ 10 ∧ ∀ G : xG, x_X G l y ws lv (av G) d E d) ∨
  (∃ (d1 : xd) (lv : Nat), o.1 = none ∧ lv ≤ 10 ∧ (∀ G : xG, x_M G l y ws lv 0 0 (av G) d (some (.int o.2.1)) d1) ∧ q_R (B + 180) d1 o.2.2 (q_push z hs) ∧ q_k d d1)
section QC
variable {l : Launch} {B : Nat} {d d1 : xd} {z g : Nat → Int32} {hs : List (Nat → Int32)} {y : MethodName} {ws : List Cond} {av : xG → List Value} {q w lv : Nat} {r r2 : Int32}
theorem q_bad {E : String} (hE : E = q_eI ∨ E = q_eA ∨ E = q_eS) (hlv : lv ≤ 10) (hc : ∀ G : xG, x_X G l y ws lv (av G) d E d) : q_C l B d z hs y ws av (some E, 0, z) := Or.inl ⟨E, lv, rfl, hE, hlv, hc⟩
theorem q_good (h : q_R B d z hs) (hq : d 43 1 = nI q) (q8 : q < 8) (hz : d 43 0 = nI w) (z8 : w ≤ 8) (hfr : y_fr (f_rem d 1 q w) d1) (hs1 : r_S (B + 180) d1 1 g) (hlv : lv ≤ 10) (hc : ∀ G : xG, x_M G l y ws lv 0 0 (av G) d (some (.int r)) d1) (hr : r = r2) : q_C l B d z hs y ws av (none, r2, g) := by
  subst hr
  obtain ⟨h1, h2⟩ := q_op h (by omega) hq q8 hz z8 hfr hs1
  exact Or.inr ⟨d1, lv, rfl, hlv, hc, h1, h2⟩
end QC
def q_n (z : Nat → Int32) : Nat := (z 0).toNatClampNeg
def q_w (z : Nat → Int32) : Nat := (z 1).toNatClampNeg
def q_i (x : Int32) : Nat := x.toNatClampNeg
theorem q_i_n {i : Nat} (h : i < 1000000) : q_i (nI i) = i := nI_clamp (by omega)
def q_sh (z : Nat → Int32) : Nat → Nat := fun j => q_i (z (14 + j))
theorem q_shf {B : Nat} {d : xd} {z : Nat → Int32} {n w : Nat} (t : r_T B d 1 z n w) : (∀ j, j < n → d 4 j = nI (q_sh z j)) ∧ (∀ j, j < n → q_sh z j ≤ 9) ∧ (1 ≤ n → 1 ≤ f_sn (q_sh z) n) := by
  obtain ⟨sh, s1, s2, s3⟩ := r_sh t.2.1
  have e : ∀ j, j < n → q_sh z j = sh j := fun j hj => by
    have h1 : d 4 j = nI (sh j) := s1 j hj
    have h2 : d 4 j = z (14 + j) := (t.1.2.2.2.2.1 j hj).2.1
    have h3 := s2 j hj
    unfold q_sh
    rw [← h2, h1]
    exact q_i_n (by omega)
  refine ⟨fun j hj => by rw [e j hj]; exact s1 j hj, fun j hj => by rw [e j hj]; exact s2 j hj, fun h => ?_⟩
  rw [f_sn_cong e]
  exact s3 h
theorem q_nw {B : Nat} {d : xd} {z : Nat → Int32} {n w : Nat} (t : r_T B d 1 z n w) : q_n z = n ∧ q_w z = w := by
  obtain ⟨⟨hn, hn2, hw, hw2, -⟩, ⟨h8, h6, -⟩, -, -⟩ := t
  refine ⟨?_, ?_⟩
  · unfold q_n
    rw [hn2]
    exact nI_clamp (by omega)
  · unfold q_w
    rw [hw2]
    exact nI_clamp (by omega)
def o_addLamp (z : Nat → Int32) (a b : Int32) : q_O := if ¬ (0 ≤ a ∧ a ≤ 3) ∨ ¬ (1 ≤ b ∧ b ≤ 9) then (some q_eA, 0, z) else if q_n z < 8 then (none, nI (q_n z), g_adds z a b (q_n z)) else (some q_eS, 0, z)
def o_removeLamp (z : Nat → Int32) (x : Int32) : q_O := if ¬ (0 ≤ x ∧ x < z 0) then (some q_eI, 0, z) else if z 4 + z (46 + q_i x) ≤ 99 then (none, nI (q_n z - 1), g_rmv z (q_i x) (q_n z) (q_w z)) else (some q_eS, 0, z)
def o_setShares (z : Nat → Int32) (x v : Int32) : q_O := if ¬ (0 ≤ x ∧ x < z 0) then (some q_eI, 0, z) else if 1 ≤ v ∧ v ≤ 9 then (none, z (14 + q_i x), upd z (14 + q_i x) v) else (some q_eA, 0, z)
def o_setBrightness (z : Nat → Int32) (x v : Int32) : q_O := if ¬ (0 ≤ x ∧ x < z 0) then (some q_eI, 0, z) else if 1 ≤ v ∧ v ≤ 5 then (none, z (22 + q_i x), upd z (22 + q_i x) v) else (some q_eA, 0, z)
def o_switchOn (z : Nat → Int32) (x : Int32) : q_O := if ¬ (0 ≤ x ∧ x < z 0) then (some q_eI, 0, z) else (none, x_bi (¬ z (30 + q_i x) = 0), upd z (30 + q_i x) 0)
def o_switchOff (z : Nat → Int32) (x : Int32) : q_O := if ¬ (0 ≤ x ∧ x < z 0) then (some q_eI, 0, z) else (none, x_bi (¬ z (30 + q_i x) = 1), upd z (30 + q_i x) 1)
def q_por (z : Nat → Int32) (a : Nat) : Nat → Nat := g_por a (q_sh z) (q_n z)
def o_deliverOil (z : Nat → Int32) (x : Int32) : q_O := if ¬ (1 ≤ x ∧ x ≤ 200) then (some q_eA, 0, z) else if q_n z = 0 then (some q_eS, 0, z) else (none, f_sum (g_add z (q_por z (q_i x))) (q_n z), g_dl z (q_por z (q_i x)) (q_n z))
def o_donateWicks (z : Nat → Int32) (u : Int32) : q_O := if ¬ (1 ≤ u ∧ u ≤ 50) then (some q_eA, 0, z) else if z 4 + u ≤ 99 then (none, z 4 + u, upd z 4 (z 4 + u)) else (some q_eS, 0, z)
def o_giveWick (z : Nat → Int32) (x u : Int32) : q_O := if ¬ (0 ≤ x ∧ x < z 0) then (some q_eI, 0, z) else if ¬ (1 ≤ u ∧ u ≤ 9) then (some q_eA, 0, z) else if ¬ z 4 < u ∧ ¬ 9 < z (46 + q_i x) + u then (none, z (46 + q_i x) + u, upd (upd z (46 + q_i x) (z (46 + q_i x) + u)) 4 (z 4 - u)) else (some q_eS, 0, z)
def o_returnWick (z : Nat → Int32) (x u : Int32) : q_O := if ¬ (0 ≤ x ∧ x < z 0) then (some q_eI, 0, z) else if ¬ (1 ≤ u ∧ u ≤ 9) then (some q_eA, 0, z) else if ¬ z (46 + q_i x) < u ∧ ¬ 99 < z 4 + u then (none, z (46 + q_i x) + -u, upd (upd z (46 + q_i x) (z (46 + q_i x) + -u)) 4 (z 4 - -u)) else (some q_eS, 0, z)
def o_buyOil (z : Nat → Int32) (x u : Int32) : q_O := if ¬ (0 ≤ x ∧ x < z 0) then (some q_eI, 0, z) else if ¬ (1 ≤ u ∧ u ≤ 60) then (some q_eA, 0, z) else if ¬ z 3 < u ∧ ¬ 60 - z (38 + q_i x) < u ∧ ¬ z (54 + q_i x) < u then (none, z (38 + q_i x) + u, g_buys z u (q_i x)) else (some q_eS, 0, z)
def o_addMoth (z : Nat → Int32) (x : Int32) : q_O := if ¬ (0 ≤ x ∧ x < z 0) then (some q_eI, 0, z) else if q_w z < 6 then (none, nI (q_w z), g_addm z (q_i x) (q_w z)) else (some q_eS, 0, z)
def o_moveMoth (z : Nat → Int32) (x u : Int32) : q_O := if ¬ (0 ≤ x ∧ x < z 1) then (some q_eI, 0, z) else if (0 ≤ u ∧ u < z 0) ∨ u = -1 then (none, z (62 + q_i x) - 1, upd z (62 + q_i x) (u + 1)) else (some q_eI, 0, z)
def o_proposeCap (z : Nat → Int32) (x : Int32) : q_O := if ¬ (1 ≤ x ∧ x ≤ 5) then (some q_eA, 0, z) else if q_n z = 0 then (some q_eS, 0, z) else if g_car z (q_n z) x = true then (none, 1, g_cap z x (q_n z)) else (none, 0, z)
def o_payDividend (z : Nat → Int32) : q_O := if q_n z = 0 ∨ z 5 = 0 then (some q_eS, 0, z) else (none, z 5, upd (g_py z (q_por z (q_i (z 5))) (q_n z)) 5 0)
def o_burnNight (z : Nat → Int32) : q_O := (none, g_cn (g_rdy z) (q_n z), g_ngt z (q_n z) (q_w z))
section QOPS
variable {l : Launch} {B : Nat} {d : xd} {z : Nat → Int32} {hs : List (Nat → Int32)}
theorem x_in9 {i n : Nat} (h : i < n) (hn : n < 1000) : 0 ≤ nI i ∧ nI i < nI n := ⟨nI_pos' (by omega), (nI_ltI (by omega) (by omega)).mpr h⟩
theorem q_addLamp (hfl : l.stackTraces = false) (h : q_R B d z hs) (hB : B + 180 < 100000) (a b : Int32) : q_C l B d z hs yX11_addLamp wsX11_addLamp (fun G => [.ref (x_b G + 0), .int a, .int b]) (o_addLamp z a b) := by
  obtain ⟨n, w, q, v9, t, hq, q8, hz, z8⟩ := q_open h
  obtain ⟨⟨hn, hn2, hw, hw2, e5, e6, e7⟩, ⟨h8, h6, v3, v4, v5⟩, -, -⟩ := id t
  obtain ⟨qn, qw⟩ := q_nw t
  unfold o_addLamp
  rcases o_ra a b hn h8 with ⟨h0, ha, hb, hn8⟩ | ⟨h0, hx⟩ | ⟨h0, ha, hb, e⟩
  · obtain ⟨a2, -, a3, rfl⟩ := o_rng (lo := 0) (hi := 3) (by decide) (by decide) ha
    obtain ⟨b2, b3, b4, rfl⟩ := o_rng (lo := 1) (hi := 9) (by decide) (by decide) hb
    rw [if_neg (fun y => y.elim (fun y => y ha) (fun y => y hb)), qn, if_pos hn8]
    have hfr : y_fr (f_rem d 1 q v9) (f_app (f_rem d 1 q v9) 1 n (nI a2) (nI b2)) := fun k hk => by unfold f_app; rw [x_p_ne (by omega), x_p_ne (by omega), x_p_ne (by omega), x_p_ne (by omega), x_p_ne (by omega), x_p_ne (by omega), x_p_ne (by omega), x_p_ne (by omega)]
    exact q_good h hq q8 hz z8 hfr (y_up (t_add (y_rem t q8) hn8 ⟨a2, by omega, rfl⟩ ⟨b2, b3, b4, rfl⟩) (by omega)) (by decide) (fun G => c_F_addLamp l G d q v9 hq hz q8 z8 _ _ n hn hn8 h0) rfl
  · rw [if_pos hx]
    exact q_bad (Or.inr (Or.inl rfl)) (by decide) (fun G => c_F_addLamp_2 l hfl G d a b h0)
  · rw [if_neg (fun y => y.elim (fun y => y ha) (fun y => y hb)), qn, if_neg (by omega)]
    exact q_bad (Or.inr (Or.inr rfl)) (by decide) (fun G => c_F_addLamp_3 l hfl G d a b h0)
theorem q_removeLamp (hfl : l.stackTraces = false) (h : q_R B d z hs) (hB : B + 180 < 100000) (x : Int32) : q_C l B d z hs yX11_removeLamp wsX11_removeLamp (fun G => [.ref (x_b G + 0), .int x]) (o_removeLamp z x) := by
  obtain ⟨n, w, q, v9, t, hq, q8, hz, z8⟩ := q_open h
  obtain ⟨⟨hn, hn2, hw, hw2, e5, e6, e7⟩, ⟨h8, h6, v3, v4, v5⟩, -, -⟩ := id t
  obtain ⟨qn, qw⟩ := q_nw t
  unfold o_removeLamp
  rcases o_rd x hn h8 with ⟨h0, i, hi, rfl, hp⟩ | ⟨h0, hx⟩ | ⟨h0, i, hi, rfl, hp⟩
  · obtain ⟨a, ha, hva⟩ := v5
    obtain ⟨-, -, -, -, b, hb, hvb⟩ := v3 i hi
    have hva : d 14 1 = nI a := hva
    have hvb : d 8 i = nI b := hvb
    have hab : a + b ≤ 99 := by
      rw [hva, hvb, nI_add] at hp
      exact (nI_leI (by omega) (by decide)).mp hp
    have qi : q_i (nI i) = i := q_i_n (by omega)
    have hp2 : z 4 + z (46 + q_i (nI i)) ≤ 99 := by
      rw [qi, ← (e5 i hi).2.2.2.2.2.1, ← e7.2.2.1]
      exact hp
    rw [if_neg (fun y => y (by rw [hn2]; exact x_in9 hi (by omega))), if_pos hp2, qn, qw, qi]
    obtain ⟨n, rfl⟩ : ∃ j, n = j + 1 := ⟨n - 1, by omega⟩
    have hfr : y_fr (f_rem d 1 q v9) (f_drop (f_rem d 1 q v9) 1 (n + 1) i w) := fun k hk => by rw [f_drop_out (by omega) (by omega), f_dw_out (by omega)]
    exact q_good h hq q8 hz z8 hfr (y_up (t_drop (y_rem t q8) hi ⟨a + b, hab, by rw [f_rem_out (by omega) q8, f_rem_out (by omega) q8]; exact (congr (congrArg HAdd.hAdd hva) hvb).trans (nI_add a b)⟩ (by omega)) (by omega)) (by decide) (fun G => c_F_removeLamp l G d q v9 hq hz q8 z8 i (n + 1) hn h8 hi w hw h6 h0) rfl
  · rw [if_pos (by rw [hn2]; exact hx)]
    exact q_bad (Or.inl rfl) (by decide) (fun G => c_F_removeLamp_1 l hfl G d x n hn h8 h0)
  · have hp2 : ¬ z 4 + z (46 + q_i (nI i)) ≤ 99 := by
      rw [q_i_n (by omega), ← (e5 i hi).2.2.2.2.2.1, ← e7.2.2.1]
      exact hp
    rw [if_neg (fun y => y (by rw [hn2]; exact x_in9 hi (by omega))), if_neg hp2]
    exact q_bad (Or.inr (Or.inr rfl)) (by decide) (fun G => c_F_removeLamp_3 l hfl G d (nI i) n hn h8 h0)
theorem q_setShares (hfl : l.stackTraces = false) (h : q_R B d z hs) (hB : B + 180 < 100000) (x v : Int32) : q_C l B d z hs yX11_setShares wsX11_setShares (fun G => [.ref (x_b G + 0), .int x, .int v]) (o_setShares z x v) := by
  obtain ⟨n, w, q, v9, t, hq, q8, hz, z8⟩ := q_open h
  obtain ⟨⟨hn, hn2, hw, hw2, e5, e6, e7⟩, ⟨h8, h6, v3, v4, v5⟩, -, -⟩ := id t
  obtain ⟨qn, qw⟩ := q_nw t
  unfold o_setShares
  rcases o_rl x v 9 hn h8 with ⟨h0, ⟨i, hi, rfl⟩, hv⟩ | ⟨h0, hx⟩ | ⟨h0, ⟨i, hi, rfl⟩, hv⟩
  · obtain ⟨v, b3, b4, rfl⟩ := o_rng (lo := 1) (hi := 9) (by decide) (by decide) hv
    have qi : q_i (nI i) = i := q_i_n (by omega)
    rw [if_neg (fun y => y (by rw [hn2]; exact x_in9 hi (by omega))), if_pos hv, qi]
    have hfr : y_fr (f_rem d 1 q v9) (x_p (f_rem d 1 q v9) 4 i (nI v)) := fun k hk => by rw [x_p_ne (by omega)]
    exact q_good h hq q8 hz z8 hfr (y_up (t_set3 (y_rem t q8) hi ⟨v, b3, b4, rfl⟩) (by omega)) (by decide) (fun G => c_F_setShares l G d q v9 hq hz q8 z8 _ i (by omega) h0) (e5 i hi).2.1
  · rw [if_pos (by rw [hn2]; exact hx)]
    exact q_bad (Or.inl rfl) (by decide) (fun G => c_F_setShares_1 l hfl G d x v h0)
  · rw [if_neg (fun y => y (by rw [hn2]; exact x_in9 hi (by omega))), if_neg hv]
    exact q_bad (Or.inr (Or.inl rfl)) (by decide) (fun G => c_F_setShares_2 l hfl G d (nI i) v h0)
theorem q_setBrightness (hfl : l.stackTraces = false) (h : q_R B d z hs) (hB : B + 180 < 100000) (x v : Int32) : q_C l B d z hs yX11_setBrightness wsX11_setBrightness (fun G => [.ref (x_b G + 0), .int x, .int v]) (o_setBrightness z x v) := by
  obtain ⟨n, w, q, v9, t, hq, q8, hz, z8⟩ := q_open h
  obtain ⟨⟨hn, hn2, hw, hw2, e5, e6, e7⟩, ⟨h8, h6, v3, v4, v5⟩, -, -⟩ := id t
  obtain ⟨qn, qw⟩ := q_nw t
  unfold o_setBrightness
  rcases o_rl x v 5 hn h8 with ⟨h0, ⟨i, hi, rfl⟩, hv⟩ | ⟨h0, hx⟩ | ⟨h0, ⟨i, hi, rfl⟩, hv⟩
  · obtain ⟨v, b3, b4, rfl⟩ := o_rng (lo := 1) (hi := 5) (by decide) (by decide) hv
    have qi : q_i (nI i) = i := q_i_n (by omega)
    rw [if_neg (fun y => y (by rw [hn2]; exact x_in9 hi (by omega))), if_pos hv, qi]
    have hfr : y_fr (f_rem d 1 q v9) (x_p (f_rem d 1 q v9) 5 i (nI v)) := fun k hk => by rw [x_p_ne (by omega)]
    exact q_good h hq q8 hz z8 hfr (y_up (t_set4 (y_rem t q8) hi ⟨v, b3, b4, rfl⟩) (by omega)) (by decide) (fun G => c_F_setBrightness l G d q v9 hq hz q8 z8 _ i (by omega) h0) (e5 i hi).2.2.1
  · rw [if_pos (by rw [hn2]; exact hx)]
    exact q_bad (Or.inl rfl) (by decide) (fun G => c_F_setBrightness_1 l hfl G d x v h0)
  · rw [if_neg (fun y => y (by rw [hn2]; exact x_in9 hi (by omega))), if_neg hv]
    exact q_bad (Or.inr (Or.inl rfl)) (by decide) (fun G => c_F_setBrightness_2 l hfl G d (nI i) v h0)
theorem q_switchOn (hfl : l.stackTraces = false) (h : q_R B d z hs) (hB : B + 180 < 100000) (x : Int32) : q_C l B d z hs yX11_switchOn wsX11_switchOn (fun G => [.ref (x_b G + 0), .int x]) (o_switchOn z x) := by
  obtain ⟨n, w, q, v9, t, hq, q8, hz, z8⟩ := q_open h
  obtain ⟨⟨hn, hn2, hw, hw2, e5, e6, e7⟩, ⟨h8, h6, v3, v4, v5⟩, -, -⟩ := id t
  obtain ⟨qn, qw⟩ := q_nw t
  unfold o_switchOn
  by_cases hx : 0 ≤ x ∧ x < nI n
  · obtain ⟨i, hi, rfl⟩ := o_ix (by omega) hx
    have qi : q_i (nI i) = i := q_i_n (by omega)
    rw [if_neg (fun y => y (by rw [hn2]; exact x_in9 hi (by omega))), qi]
    have hfr : y_fr (f_rem d 1 q v9) (x_p (f_rem d 1 q v9) 6 i 1) := fun k hk => by rw [x_p_ne (by omega)]
    exact q_good h hq q8 hz z8 hfr (y_up (t_on (y_rem t q8) hi) (by omega)) (by decide) (fun G => c_F_switchOn l G d q v9 hq hz q8 z8 i n hn h8 hi) (o_swn (e5 i hi).2.2.2.1)
  · rw [if_pos (by rw [hn2]; exact hx)]
    exact q_bad (Or.inl rfl) (by decide) (fun G => c_F_switchOn_1 l hfl G d x n hn hx)
theorem q_switchOff (hfl : l.stackTraces = false) (h : q_R B d z hs) (hB : B + 180 < 100000) (x : Int32) : q_C l B d z hs yX11_switchOff wsX11_switchOff (fun G => [.ref (x_b G + 0), .int x]) (o_switchOff z x) := by
  obtain ⟨n, w, q, v9, t, hq, q8, hz, z8⟩ := q_open h
  obtain ⟨⟨hn, hn2, hw, hw2, e5, e6, e7⟩, ⟨h8, h6, v3, v4, v5⟩, -, -⟩ := id t
  obtain ⟨qn, qw⟩ := q_nw t
  unfold o_switchOff
  by_cases hx : 0 ≤ x ∧ x < nI n
  · obtain ⟨i, hi, rfl⟩ := o_ix (by omega) hx
    have qi : q_i (nI i) = i := q_i_n (by omega)
    rw [if_neg (fun y => y (by rw [hn2]; exact x_in9 hi (by omega))), qi]
    have hfr : y_fr (f_rem d 1 q v9) (x_p (f_rem d 1 q v9) 6 i 0) := fun k hk => by rw [x_p_ne (by omega)]
    exact q_good h hq q8 hz z8 hfr (y_up (t_off (y_rem t q8) hi) (by omega)) (by decide) (fun G => c_F_switchOff l G d q v9 hq hz q8 z8 i n hn h8 hi) (o_swf (e5 i hi).2.2.2.1)
  · rw [if_pos (by rw [hn2]; exact hx)]
    exact q_bad (Or.inl rfl) (by decide) (fun G => c_F_switchOff_1 l hfl G d x n hn hx)
theorem q_deliverOil (hfl : l.stackTraces = false) (h : q_R B d z hs) (hB : B + 180 < 100000) (x : Int32) : q_C l B d z hs yX11_deliverOil wsX11_deliverOil (fun G => [.ref (x_b G + 0), .int x]) (o_deliverOil z x) := by
  obtain ⟨n, w, q, v9, t, hq, q8, hz, z8⟩ := q_open h
  obtain ⟨⟨hn, hn2, hw, hw2, e5, e6, e7⟩, ⟨h8, h6, v3, v4, v5⟩, -, -⟩ := id t
  obtain ⟨qn, qw⟩ := q_nw t
  unfold o_deliverOil
  rcases o_rdel x hn h8 with ⟨h0, hx, h1⟩ | ⟨h0, hx⟩ | ⟨h0, hx, e⟩
  · obtain ⟨a, b3, b4, rfl⟩ := o_rng (lo := 1) (hi := 200) (by decide) (by decide) hx
    obtain ⟨s1, s2, s3⟩ := q_shf t
    have qi : q_i (nI a) = a := q_i_n (by omega)
    rw [if_neg (fun y => y hx), qn, if_neg (by omega), qi]
    unfold q_por
    rw [qn]
    have tp := t_pour (a := 159) (a0 := a) (sh := q_sh z) (y_rem (z := v9) t q8) (by omega) (fun j hj => by rw [f_rem_out (by omega) q8]; exact s1 j hj) s2 (s3 h1) (by omega)
    have hfr : y_fr (f_rem d 1 q v9) (f_pour (f_rem d 1 q v9) 159 1 n a (q_sh z)) := fun k hk => by rw [f_pour_out (by omega) (by omega) (by omega)]
    exact q_good h hq q8 hz z8 hfr (y_up (tp.1) (by omega)) (by decide) (fun G => c_F_deliverOil l G d q v9 hq hz q8 z8 n hn h8 a (q_sh z) s1 s2 (s3 h1) (by omega) h0) (by rw [← tp.2, f_rem_out (by omega) q8])
  · rw [if_pos hx]
    exact q_bad (Or.inr (Or.inl rfl)) (by decide) (fun G => c_F_deliverOil_2 l hfl G d x h0)
  · rw [if_neg (fun y => y hx), qn, if_pos e]
    exact q_bad (Or.inr (Or.inr rfl)) (by decide) (fun G => c_F_deliverOil_3 l hfl G d x h0)
theorem q_donateWicks (hfl : l.stackTraces = false) (h : q_R B d z hs) (hB : B + 180 < 100000) (u : Int32) : q_C l B d z hs yX11_donateWicks wsX11_donateWicks (fun G => [.ref (x_b G + 0), .int u]) (o_donateWicks z u) := by
  obtain ⟨n, w, q, v9, t, hq, q8, hz, z8⟩ := q_open h
  obtain ⟨⟨hn, hn2, hw, hw2, e5, e6, e7⟩, ⟨h8, h6, v3, v4, v5⟩, -, -⟩ := id t
  obtain ⟨qn, qw⟩ := q_nw t
  unfold o_donateWicks
  have f4 : d 14 1 = z 4 := e7.2.2.1
  rcases o_rdon (d := d) u with ⟨h0, hx, hp⟩ | ⟨h0, hx⟩ | ⟨h0, hx, hp⟩
  · obtain ⟨u, b3, b4, rfl⟩ := o_rng (lo := 1) (hi := 50) (by decide) (by decide) hx
    obtain ⟨a, ha, hva⟩ := v5
    have hva : d 14 1 = nI a := hva
    rw [if_neg (fun y => y hx), if_pos (by rw [← f4]; exact hp)]
    have hab : a + u ≤ 99 := by
      rw [hva, nI_add] at hp
      exact (nI_leI (by omega) (by decide)).mp hp
    have hfr : y_fr (f_rem d 1 q v9) (f_don (f_rem d 1 q v9) 1 (nI u)) := fun k hk => by unfold f_don; rw [x_p_ne (by omega), x_p_ne (by omega)]
    exact q_good h hq q8 hz z8 hfr (y_up (t_don (y_rem t q8) ⟨a, hab, by rw [f_rem_out (by omega) q8]; exact hva⟩) (by omega)) (by decide) (fun G => c_F_donateWicks l G d q v9 hq hz q8 z8 _ h0) (by rw [f4])
  · rw [if_pos hx]
    exact q_bad (Or.inr (Or.inl rfl)) (by decide) (fun G => c_F_donateWicks_2 l hfl G d u h0)
  · rw [if_neg (fun y => y hx), if_neg (by rw [← f4]; exact hp)]
    exact q_bad (Or.inr (Or.inr rfl)) (by decide) (fun G => c_F_donateWicks_3 l hfl G d u h0)
theorem q_giveWick (hfl : l.stackTraces = false) (h : q_R B d z hs) (hB : B + 180 < 100000) (x u : Int32) : q_C l B d z hs yX11_giveWick wsX11_giveWick (fun G => [.ref (x_b G + 0), .int x, .int u]) (o_giveWick z x u) := by
  obtain ⟨n, w, q, v9, t, hq, q8, hz, z8⟩ := q_open h
  obtain ⟨⟨hn, hn2, hw, hw2, e5, e6, e7⟩, ⟨h8, h6, v3, v4, v5⟩, -, -⟩ := id t
  obtain ⟨qn, qw⟩ := q_nw t
  unfold o_giveWick
  obtain ⟨a, ha, hva⟩ := v5
  have hva : d 14 1 = nI a := hva
  have f4 : d 14 1 = z 4 := e7.2.2.1
  rcases o_rgive x u hn h8 with ⟨h0, i, hi, rfl, hu, hp1, hp2⟩ | ⟨h0, hx⟩ | ⟨h0, ⟨i, hi, rfl⟩, hu⟩ | ⟨h0, i, hi, rfl, hu, hp⟩
  · obtain ⟨u, b3, b4, rfl⟩ := o_rng (lo := 1) (hi := 9) (by decide) (by decide) hu
    obtain ⟨-, -, -, -, b, hb, hvb⟩ := v3 i hi
    have hvb : d 8 i = nI b := hvb
    have f8 : d 8 i = z (46 + i) := (e5 i hi).2.2.2.2.2.1
    have qi : q_i (nI i) = i := q_i_n (by omega)
    rw [if_neg (fun y => y (by rw [hn2]; exact x_in9 hi (by omega))), if_neg (fun y => y hu), qi, if_pos (by rw [← f4, ← f8]; exact ⟨hp1, hp2⟩)]
    have h1 : u ≤ a := by
      rw [hva] at hp1
      rcases Nat.lt_or_ge a u with y | y
      · exact absurd (nI_lt y (by omega)) hp1
      · exact y
    have h2 : b + u ≤ 9 := by
      rw [hvb, nI_add] at hp2
      rcases Nat.lt_or_ge 9 (b + u) with y | y
      · exact absurd (nI_lt y (by omega)) hp2
      · exact y
    have hfr : y_fr (f_rem d 1 q v9) (f_mvw (f_rem d 1 q v9) 1 i (nI u)) := fun k hk => by unfold f_mvw; rw [x_p_ne (by omega), x_p_ne (by omega)]
    exact q_good h hq q8 hz z8 hfr (y_up (t_mvw (y_rem t q8) hi ⟨b + u, h2, by rw [f_rem_out (by omega) q8]; show d 8 i + _ = _; rw [hvb, nI_add]⟩ ⟨a - u, by omega, by rw [f_rem_out (by omega) q8]; show d 14 1 - _ = _; rw [hva, pk_sub h1]⟩) (by omega)) (by decide) (fun G => c_F_giveWick l G d q v9 hq hz q8 z8 _ i n hn h8 hi h0) (by rw [f8])
  · rw [if_pos (by rw [hn2]; exact hx)]
    exact q_bad (Or.inl rfl) (by decide) (fun G => c_F_giveWick_1 l hfl G d x u n hn h8 h0)
  · rw [if_neg (fun y => y (by rw [hn2]; exact x_in9 hi (by omega))), if_pos hu]
    exact q_bad (Or.inr (Or.inl rfl)) (by decide) (fun G => c_F_giveWick_2 l hfl G d (nI i) u n hn h8 h0)
  · have f8 : d 8 i = z (46 + i) := (e5 i hi).2.2.2.2.2.1
    rw [if_neg (fun y => y (by rw [hn2]; exact x_in9 hi (by omega))), if_neg (fun y => y hu), q_i_n (by omega), if_neg (by rw [← f4, ← f8]; exact fun y => hp.elim y.1 y.2)]
    exact q_bad (Or.inr (Or.inr rfl)) (by decide) (fun G => c_F_giveWick_3 l hfl G d (nI i) u n hn h8 h0)
theorem q_returnWick (hfl : l.stackTraces = false) (h : q_R B d z hs) (hB : B + 180 < 100000) (x u : Int32) : q_C l B d z hs yX11_returnWick wsX11_returnWick (fun G => [.ref (x_b G + 0), .int x, .int u]) (o_returnWick z x u) := by
  obtain ⟨n, w, q, v9, t, hq, q8, hz, z8⟩ := q_open h
  obtain ⟨⟨hn, hn2, hw, hw2, e5, e6, e7⟩, ⟨h8, h6, v3, v4, v5⟩, -, -⟩ := id t
  obtain ⟨qn, qw⟩ := q_nw t
  unfold o_returnWick
  obtain ⟨a, ha, hva⟩ := v5
  have hva : d 14 1 = nI a := hva
  have f4 : d 14 1 = z 4 := e7.2.2.1
  rcases o_rret x u hn h8 with ⟨h0, i, hi, rfl, hu, hp1, hp2⟩ | ⟨h0, hx⟩ | ⟨h0, ⟨i, hi, rfl⟩, hu⟩ | ⟨h0, i, hi, rfl, hu, hp⟩
  · obtain ⟨u, b3, b4, rfl⟩ := o_rng (lo := 1) (hi := 9) (by decide) (by decide) hu
    obtain ⟨-, -, -, -, b, hb, hvb⟩ := v3 i hi
    have hvb : d 8 i = nI b := hvb
    have f8 : d 8 i = z (46 + i) := (e5 i hi).2.2.2.2.2.1
    have qi : q_i (nI i) = i := q_i_n (by omega)
    rw [if_neg (fun y => y (by rw [hn2]; exact x_in9 hi (by omega))), if_neg (fun y => y hu), qi, if_pos (by rw [← f4, ← f8]; exact ⟨hp1, hp2⟩)]
    have h1 : u ≤ b := by
      rw [hvb] at hp1
      rcases Nat.lt_or_ge b u with y | y
      · exact absurd (nI_lt y (by omega)) hp1
      · exact y
    have h2 : a + u ≤ 99 := by
      rw [hva, nI_add] at hp2
      rcases Nat.lt_or_ge 99 (a + u) with y | y
      · exact absurd (nI_lt y (by omega)) hp2
      · exact y
    have g1 : nI b + -(nI u) = nI (b - u) := by rw [← Int32.sub_eq_add_neg, pk_sub h1]
    have g2 : nI a - -(nI u) = nI (a + u) := by rw [Int32.sub_eq_add_neg, Int32.neg_neg, nI_add]
    have hfr : y_fr (f_rem d 1 q v9) (f_mvw (f_rem d 1 q v9) 1 i (-(nI u))) := fun k hk => by unfold f_mvw; rw [x_p_ne (by omega), x_p_ne (by omega)]
    exact q_good h hq q8 hz z8 hfr (y_up (t_mvw (y_rem t q8) hi ⟨b - u, by omega, by rw [f_rem_out (by omega) q8]; show d 8 i + _ = _; rw [hvb, g1]⟩ ⟨a + u, h2, by rw [f_rem_out (by omega) q8]; show d 14 1 - _ = _; rw [hva, g2]⟩) (by omega)) (by decide) (fun G => c_F_returnWick l G d q v9 hq hz q8 z8 _ i n hn h8 hi h0) (by rw [f8])
  · rw [if_pos (by rw [hn2]; exact hx)]
    exact q_bad (Or.inl rfl) (by decide) (fun G => c_F_returnWick_1 l hfl G d x u n hn h8 h0)
  · rw [if_neg (fun y => y (by rw [hn2]; exact x_in9 hi (by omega))), if_pos hu]
    exact q_bad (Or.inr (Or.inl rfl)) (by decide) (fun G => c_F_returnWick_2 l hfl G d (nI i) u n hn h8 h0)
  · have f8 : d 8 i = z (46 + i) := (e5 i hi).2.2.2.2.2.1
    rw [if_neg (fun y => y (by rw [hn2]; exact x_in9 hi (by omega))), if_neg (fun y => y hu), q_i_n (by omega), if_neg (by rw [← f4, ← f8]; exact fun y => hp.elim y.1 y.2)]
    exact q_bad (Or.inr (Or.inr rfl)) (by decide) (fun G => c_F_returnWick_3 l hfl G d (nI i) u n hn h8 h0)
theorem q_buyOil (hfl : l.stackTraces = false) (h : q_R B d z hs) (hB : B + 180 < 100000) (x u : Int32) : q_C l B d z hs yX11_buyOil wsX11_buyOil (fun G => [.ref (x_b G + 0), .int x, .int u]) (o_buyOil z x u) := by
  obtain ⟨n, w, q, v9, t, hq, q8, hz, z8⟩ := q_open h
  obtain ⟨⟨hn, hn2, hw, hw2, e5, e6, e7⟩, ⟨h8, h6, v3, v4, v5⟩, -, -⟩ := id t
  obtain ⟨qn, qw⟩ := q_nw t
  unfold o_buyOil
  rcases o_rbuy x u hn h8 with ⟨h0, i, hi, rfl, hu, hp1, hp2, hp3⟩ | ⟨h0, hx⟩ | ⟨h0, ⟨i, hi, rfl⟩, hu⟩ | ⟨h0, i, hi, rfl, hu, hp⟩
  · obtain ⟨u, b3, b4, rfl⟩ := o_rng (lo := 1) (hi := 60) (by decide) (by decide) hu
    obtain ⟨-, -, -, ⟨a, ha, hva⟩, -⟩ := v3 i hi
    have hva : d 7 i = nI a := hva
    have f1 : d 7 i = z (38 + i) := (e5 i hi).2.2.2.2.1
    have f2 : d 9 i = z (54 + i) := (e5 i hi).2.2.2.2.2.2
    have f3 : d 14 0 = z 3 := e7.2.1
    have qi : q_i (nI i) = i := q_i_n (by omega)
    rw [if_neg (fun y => y (by rw [hn2]; exact x_in9 hi (by omega))), if_neg (fun y => y hu), qi, if_pos (by rw [← f1, ← f2, ← f3]; exact ⟨hp1, hp2, hp3⟩)]
    have h1 : a + u ≤ 60 := by
      rw [hva, show (60 : Int32) = nI 60 from rfl, pk_sub ha] at hp2
      rcases Nat.lt_or_ge (60 - a) u with y | y
      · exact absurd (nI_lt y (by omega)) hp2
      · omega
    have hfr : y_fr (f_rem d 1 q v9) (f_sell (f_rem d 1 q v9) 1 i (nI u)) := fun k hk => by unfold f_sell; rw [x_p_ne (by omega), x_p_ne (by omega), x_p_ne (by omega), x_p_ne (by omega)]
    exact q_good h hq q8 hz z8 hfr (y_up (t_sell (y_rem t q8) hi ⟨a, h1, by rw [f_rem_out (by omega) q8]; exact hva⟩ (by rw [f_rem_out (by omega) q8]; exact hp3) (by omega) b4) (by omega)) (by decide) (fun G => c_F_buyOil l G d q v9 hq hz q8 z8 _ i n hn h8 hi h0) (by rw [f1])
  · rw [if_pos (by rw [hn2]; exact hx)]
    exact q_bad (Or.inl rfl) (by decide) (fun G => c_F_buyOil_1 l hfl G d x u n hn h8 h0)
  · rw [if_neg (fun y => y (by rw [hn2]; exact x_in9 hi (by omega))), if_pos hu]
    exact q_bad (Or.inr (Or.inl rfl)) (by decide) (fun G => c_F_buyOil_2 l hfl G d (nI i) u n hn h8 h0)
  · have f1 : d 7 i = z (38 + i) := (e5 i hi).2.2.2.2.1
    have f2 : d 9 i = z (54 + i) := (e5 i hi).2.2.2.2.2.2
    have f3 : d 14 0 = z 3 := e7.2.1
    rw [if_neg (fun y => y (by rw [hn2]; exact x_in9 hi (by omega))), if_neg (fun y => y hu), q_i_n (by omega), if_neg (by rw [← f1, ← f2, ← f3]; exact fun y => hp.elim y.1 (fun p => p.elim y.2.1 y.2.2))]
    exact q_bad (Or.inr (Or.inr rfl)) (by decide) (fun G => c_F_buyOil_3 l hfl G d (nI i) u n hn h8 h0)
theorem q_addMoth (hfl : l.stackTraces = false) (h : q_R B d z hs) (hB : B + 180 < 100000) (x : Int32) : q_C l B d z hs yX11_addMoth wsX11_addMoth (fun G => [.ref (x_b G + 0), .int x]) (o_addMoth z x) := by
  obtain ⟨n, w, q, v9, t, hq, q8, hz, z8⟩ := q_open h
  obtain ⟨⟨hn, hn2, hw, hw2, e5, e6, e7⟩, ⟨h8, h6, v3, v4, v5⟩, -, -⟩ := id t
  obtain ⟨qn, qw⟩ := q_nw t
  unfold o_addMoth
  rcases o_ram x hn h8 hw h6 with ⟨h0, ⟨i, hi, rfl⟩, hw6⟩ | ⟨h0, hx⟩ | ⟨h0, ⟨i, hi, rfl⟩, e⟩
  · have qi : q_i (nI i) = i := q_i_n (by omega)
    rw [if_neg (fun y => y (by rw [hn2]; exact x_in9 hi (by omega))), qw, if_pos hw6, qi]
    have hfr : y_fr (f_rem d 1 q v9) (f_appm (f_rem d 1 q v9) 1 w (nI i)) := fun k hk => by unfold f_appm; rw [x_p_ne (by omega), x_p_ne (by omega), x_p_ne (by omega), x_p_ne (by omega)]
    exact q_good h hq q8 hz z8 hfr (y_up (t_adm (y_rem t q8) hi hw6) (by omega)) (by decide) (fun G => c_F_addMoth l G d q v9 hq hz q8 z8 _ w hw hw6 h0) rfl
  · rw [if_pos (by rw [hn2]; exact hx)]
    exact q_bad (Or.inl rfl) (by decide) (fun G => c_F_addMoth_1 l hfl G d x h0)
  · rw [if_neg (fun y => y (by rw [hn2]; exact x_in9 hi (by omega))), qw, if_neg (by omega)]
    exact q_bad (Or.inr (Or.inr rfl)) (by decide) (fun G => c_F_addMoth_3 l hfl G d (nI i) h0)
theorem q_moveMoth (hfl : l.stackTraces = false) (h : q_R B d z hs) (hB : B + 180 < 100000) (x u : Int32) : q_C l B d z hs yX11_moveMoth wsX11_moveMoth (fun G => [.ref (x_b G + 0), .int x, .int u]) (o_moveMoth z x u) := by
  obtain ⟨n, w, q, v9, t, hq, q8, hz, z8⟩ := q_open h
  obtain ⟨⟨hn, hn2, hw, hw2, e5, e6, e7⟩, ⟨h8, h6, v3, v4, v5⟩, -, -⟩ := id t
  obtain ⟨qn, qw⟩ := q_nw t
  unfold o_moveMoth
  by_cases hx : 0 ≤ x ∧ x < nI w
  · obtain ⟨i, hi, rfl⟩ := o_ix (by omega) hx
    have qi : q_i (nI i) = i := q_i_n (by omega)
    rw [if_neg (fun y => y (by rw [hw2]; exact x_in9 hi (by omega))), qi, hn2]
    by_cases hu : (0 ≤ u ∧ u < nI n) ∨ u = -1
    · have hv : u = -1 ∨ ∃ j, j < n ∧ u = nI j := by
        rcases hu with hu | hu
        · exact Or.inr (o_ix (by omega) hu)
        · exact Or.inl hu
      rw [if_pos hu]
      have hfr : y_fr (f_rem d 1 q v9) (x_p (f_rem d 1 q v9) 11 i u) := fun k hk => by rw [x_p_ne (by omega)]
      exact q_good h hq q8 hz z8 hfr (y_up (t_mvm (y_rem t q8) hi hv) (by omega)) (by decide) (fun G => c_F_moveMoth l G d q v9 hq hz q8 z8 i w hw h6 hi u n hn h8 hu) (e6 i hi).1
    · rw [if_neg hu]
      exact q_bad (Or.inl rfl) (by decide) (fun G => c_F_moveMoth_2 l hfl G d i w hw h6 hi u n hn (fun y => hu (Or.inl y)) (fun y => hu (Or.inr y)))
  · rw [if_pos (by rw [hw2]; exact hx)]
    exact q_bad (Or.inl rfl) (by decide) (fun G => c_F_moveMoth_1 l hfl G d x w hw hx u)
theorem q_proposeCap (hfl : l.stackTraces = false) (h : q_R B d z hs) (hB : B + 180 < 100000) (x : Int32) : q_C l B d z hs yX11_proposeCap wsX11_proposeCap (fun G => [.ref (x_b G + 0), .int x]) (o_proposeCap z x) := by
  obtain ⟨n, w, q, v9, t, hq, q8, hz, z8⟩ := q_open h
  obtain ⟨⟨hn, hn2, hw, hw2, e5, e6, e7⟩, ⟨h8, h6, v3, v4, v5⟩, -, -⟩ := id t
  obtain ⟨qn, qw⟩ := q_nw t
  unfold o_proposeCap
  rcases o_rpro x hn h8 with ⟨h0, hx, h1⟩ | ⟨h0, hx⟩ | ⟨h0, hx, e⟩
  · have hwc := o_wc (x := x) (y_rem (z := v9) t q8)
    rw [if_neg (fun y => y hx), qn, if_neg (by omega)]
    by_cases hy : g_car z n x = true
    · obtain ⟨x, b3, b4, rfl⟩ := o_rng (lo := 1) (hi := 5) (by decide) (by decide) hx
      rw [if_pos hy]
      have hfr : y_fr (f_rem d 1 q v9) (x_r (f_rem d 1 q v9) 5 (f_cap ((f_rem d 1 q v9) 5) (nI x) n)) := fun k hk => by rw [x_r_ne2 (by omega)]
      exact q_good h hq q8 hz z8 hfr (y_up (t_cap (y_rem t q8) ⟨b3, b4⟩) (by omega)) (by decide) (fun G => c_F_proposeCap l G d q v9 hq hz q8 z8 _ n hn h8 (hwc.trans hy) h0) rfl
    · rw [if_neg hy]
      have hfr : y_fr (f_rem d 1 q v9) (f_rem d 1 q v9) := fun _ _ => rfl
      exact q_good h hq q8 hz z8 hfr (y_up (y_rem t q8) (by omega)) (by decide) (fun G => c_F_proposeCap_n l G d q v9 hq hz q8 z8 x n hn h8 (by rw [hwc]; exact hy) h0) rfl
  · rw [if_pos hx]
    exact q_bad (Or.inr (Or.inl rfl)) (by decide) (fun G => c_F_proposeCap_2 l hfl G d x h0)
  · rw [if_neg (fun y => y hx), qn, if_pos e]
    exact q_bad (Or.inr (Or.inr rfl)) (by decide) (fun G => c_F_proposeCap_3 l hfl G d x h0)
theorem q_payDividend (hfl : l.stackTraces = false) (h : q_R B d z hs) (hB : B + 180 < 100000) : q_C l B d z hs yX11_payDividend wsX11_payDividend (fun G => [.ref (x_b G + 0)]) (o_payDividend z) := by
  obtain ⟨n, w, q, v9, t, hq, q8, hz, z8⟩ := q_open h
  obtain ⟨⟨hn, hn2, hw, hw2, e5, e6, e7⟩, ⟨h8, h6, v3, v4, v5⟩, -, -⟩ := id t
  obtain ⟨qn, qw⟩ := q_nw t
  unfold o_payDividend
  obtain ⟨b9, t9, m1, m2, m3⟩ := t.2.2.1
  have m2 : d 14 2 = nI t9 := m2
  have f3 : d 14 2 = z 5 := e7.2.2.2
  rcases o_rpay hn h8 with ⟨h0, h1, hx⟩ | ⟨h0, hx⟩
  · obtain ⟨s1, s2, s3⟩ := q_shf t
    have qi : q_i (z 5) = t9 := by rw [← f3, m2]; exact q_i_n (by omega)
    rw [qn, if_neg (fun y => y.elim (fun y => by omega) (fun y => hx (f3.trans y))), qi]
    unfold q_por
    rw [qn]
    have hfr : y_fr (f_rem d 1 q v9) (f_shr (f_rem d 1 q v9) 159 1 n t9 (q_sh z)) := fun k hk => by rw [f_shr_out (by omega) (by omega) (by omega)]
    exact q_good h hq q8 hz z8 hfr (y_up (t_pay (a := 159) (a0 := t9) (sh := q_sh z) (y_rem (z := v9) t q8) (by omega) (fun j hj => by rw [f_rem_out (by omega) q8]; exact s1 j hj) s2 (s3 h1) (by omega) (by rw [f_rem_out (by omega) q8]; exact m2) (by omega)) (by omega)) (by decide) (fun G => c_F_payDividend l G d q v9 hq hz q8 z8 n hn h8 t9 (q_sh z) s1 s2 (s3 h1) (by omega) m2 h0) (m2.symm.trans f3)
  · rw [qn, if_pos (hx.elim Or.inl (fun y => Or.inr (f3.symm.trans y)))]
    exact q_bad (Or.inr (Or.inr rfl)) (by decide) (fun G => c_F_payDividend_3 l hfl G d h0)
theorem q_burnNight (hfl : l.stackTraces = false) (h : q_R B d z hs) (hB : B + 180 < 100000) : q_C l B d z hs yX11_burnNight wsX11_burnNight (fun G => [.ref (x_b G + 0)]) (o_burnNight z) := by
  obtain ⟨n, w, q, v9, t, hq, q8, hz, z8⟩ := q_open h
  obtain ⟨⟨hn, hn2, hw, hw2, e5, e6, e7⟩, ⟨h8, h6, v3, v4, v5⟩, -, -⟩ := id t
  obtain ⟨qn, qw⟩ := q_nw t
  unfold o_burnNight
  have hfr : y_fr (f_rem d 1 q v9) (f_night (f_rem d 1 q v9) 1 n w) := fun k hk => by
    unfold f_night f_n3
    rw [x_p_ne (by omega), f_ps_out (by omega), f_dis_out (by omega), f_ma_out (by omega) (by omega) (by omega) (by omega), f_brn_out (by omega) (by omega) (by omega) (by omega)]
  obtain ⟨⟨w2, tn⟩, hcb⟩ := t_night (y_rem (z := v9) t q8) (by omega) (by omega)
  rw [qn, qw]
  exact q_good h hq q8 hz z8 hfr (y_up tn (by omega)) (by decide) (fun G => c_F_burnNight l G d q v9 hq hz q8 z8 n hn h8 w hw h6) hcb
end QOPS
