/-! an answer, and the state behind it -/
def q_A (l : Launch) (B : Nat) (d : xd) (z : Nat → Int32) (hs : List (Nat → Int32)) (y : MethodName) (ws : List Cond) (av : xG → List Value) (r : Int32) : Prop := ∃ (d1 : xd) (lv : Nat), lv ≤ 10 ∧ (∀ G : xG, x_M G l y ws lv 0 0 (av G) d (some (.int r)) d1) ∧ q_R B d1 z hs ∧ q_k d d1
section QA
variable {l : Launch} {B n w : Nat} {d : xd} {z z2 : Nat → Int32} {hs : List (Nat → Int32)}
theorem q_A_ok {y : MethodName} {ws : List Cond} {av : xG → List Value} {o : q_O} {r : Int32} (h : q_C l B d z hs y ws av o) (ho : o.1 = none ∧ o.2.1 = r ∧ ∀ j, j < 80 → z2 j = o.2.2 j) : q_A l (B + 180) d z2 (q_push z hs) y ws av r := by
  obtain ⟨h1, h2, h3⟩ := ho
  subst h2
  rcases h with ⟨E, lv, e1, -⟩ | ⟨d1, lv, -, hlv, hm, hq, hk⟩
  · rw [h1] at e1
    cases e1
  · exact ⟨d1, lv, hlv, hm, q_R_z hq h3, hk⟩
theorem q_A_v {w a b : Int32} {o : q_O} {r : Int32} (h : v_C l B d z hs w a b o) (ho : o.1 = none ∧ o.2.1 = r ∧ ∀ j, j < 80 → z2 j = o.2.2 j) : ∃ d1 : xd, (∀ G : xG, x_M G l yL_act wsL_act 11 1 6 [.ref (x_b G + 0), .int w, .int a, .int b] d (some (.int r)) d1) ∧ q_R (B + 180) d1 z2 (q_push z hs) ∧ q_k d d1 := by
  obtain ⟨h1, h2, h3⟩ := ho
  obtain ⟨d1, hm, hq, hk⟩ := h
  rw [v_do_none h1] at hm hq
  subst h2
  exact ⟨d1, hm, q_R_z hq h3, hk⟩
theorem q_A_x {w a b : Int32} {o : q_O} {E : String} (h : v_C l B d z hs w a b o) (ho : o.1 = some E) : ∃ d1 : xd, (∀ G : xG, x_M G l yL_act wsL_act 11 1 6 [.ref (x_b G + 0), .int w, .int a, .int b] d (some (.int (v_ex E))) d1) ∧ q_R (B + 180) d1 z hs ∧ q_k d d1 := by
  obtain ⟨d1, hm, hq, hk⟩ := h
  rw [v_do_some ho] at hm hq
  exact ⟨d1, hm, hq, hk⟩
/-- a question leaves all but its own rows alone -/
theorem q_A_of {y : MethodName} {ws : List Cond} {av : xG → List Value} {r r2 : Int32} {d1 : xd} {lv : Nat} (h : q_R B d z hs) (hlv : lv ≤ 10) (hm : ∀ G : xG, x_M G l y ws lv 0 0 (av G) d (some (.int r)) d1) (hd : ∀ k, k < 159 ∨ 167 < k → d1 k = d k) (hr : r = r2) : q_A l B d z hs y ws av r2 := by
  subst hr
  exact ⟨d1, lv, hlv, hm, q_R_like h (fun k h1 h2 => hd k (by omega)) (fun k h1 h2 => hd k (by omega)) (Nat.le_refl _), fun k hk => hd k (by omega)⟩
theorem qa_lamp {y : MethodName} {ws : List Cond} {av : xG → List Value} (i : Nat) {r : Int32} (h : q_R B d z hs) (hi : i < q_n z) (w k : Nat)
    (hc : ∀ (n : Nat) (G : xG), d 2 0 = nI n → n ≤ 8 → i < n → x_M G l y ws 3 0 0 (av G) d (some (.int (d k i))) d) (hw : (k = 7 ∧ w = 38) ∨ (k = 8 ∧ w = 46) ∨ (k = 9 ∧ w = 54)) (hr : z (w + i) = r) : q_A l B d z hs y ws av r := by
  obtain ⟨⟨n, q, t⟩, -⟩ := id h
  obtain ⟨qn, qw⟩ := q_nw t
  obtain ⟨⟨hn, hn2, hw1, hw2, e5, e6, e7⟩, ⟨h8, h6, v3, v4, v5⟩, -, -⟩ := id t
  have hi : i < n := by rw [← qn]; exact hi
  refine q_A_of h (by decide) (fun G => hc n G hn h8 hi) (fun _ _ => rfl) ?_
  obtain ⟨-, -, -, -, a1, a2, a3⟩ := e5 i hi
  rcases hw with ⟨rfl, rfl⟩ | ⟨rfl, rfl⟩ | ⟨rfl, rfl⟩
  · exact a1.trans hr
  · exact a2.trans hr
  · exact a3.trans hr
theorem qa_oilOf (i : Nat) {r : Int32} (h : q_R B d z hs) (hi : i < q_n z) (hr : z (38 + i) = r) : q_A l B d z hs yX11_oilOf wsX11_oilOf (fun G => [.ref (x_b G + 0), .int (nI i)]) r := qa_lamp i h hi 38 7 (fun n G a b c => c_F_oilOf l G d i n a b c) (Or.inl ⟨rfl, rfl⟩) hr
theorem qa_wickOf (i : Nat) {r : Int32} (h : q_R B d z hs) (hi : i < q_n z) (hr : z (46 + i) = r) : q_A l B d z hs yX11_wickOf wsX11_wickOf (fun G => [.ref (x_b G + 0), .int (nI i)]) r := qa_lamp i h hi 46 8 (fun n G a b c => c_F_wickOf l G d i n a b c) (Or.inr (Or.inl ⟨rfl, rfl⟩)) hr
theorem qa_balanceOf (i : Nat) {r : Int32} (h : q_R B d z hs) (hi : i < q_n z) (hr : z (54 + i) = r) : q_A l B d z hs yX11_balanceOf wsX11_balanceOf (fun G => [.ref (x_b G + 0), .int (nI i)]) r := qa_lamp i h hi 54 9 (fun n G a b c => c_F_balanceOf l G d i n a b c) (Or.inr (Or.inr ⟨rfl, rfl⟩)) hr
theorem qa_lampOfMoth (i : Nat) {r : Int32} (h : q_R B d z hs) (hi : i < q_w z) (hr : z (62 + i) - 1 = r) : q_A l B d z hs yX11_lampOfMoth wsX11_lampOfMoth (fun G => [.ref (x_b G + 0), .int (nI i)]) r := by
  obtain ⟨⟨n, q, t⟩, -⟩ := id h
  obtain ⟨qn, qw⟩ := q_nw t
  obtain ⟨⟨hn, hn2, hw, hw2, e5, e6, e7⟩, ⟨h8, h6, v3, v4, v5⟩, -, -⟩ := id t
  have hi : i < q := by rw [← qw]; exact hi
  exact q_A_of h (by decide) (fun G => c_F_lampOfMoth l G d i q hw h6 hi) (fun _ _ => rfl) ((e6 i hi).1.trans hr)
theorem qa_strikesOf (i : Nat) {r : Int32} (h : q_R B d z hs) (hi : i < q_w z) (hr : z (68 + i) = r) : q_A l B d z hs yX11_strikesOf wsX11_strikesOf (fun G => [.ref (x_b G + 0), .int (nI i)]) r := by
  obtain ⟨⟨n, q, t⟩, -⟩ := id h
  obtain ⟨qn, qw⟩ := q_nw t
  obtain ⟨⟨hn, hn2, hw, hw2, e5, e6, e7⟩, ⟨h8, h6, v3, v4, v5⟩, -, -⟩ := id t
  have hi : i < q := by rw [← qw]; exact hi
  exact q_A_of h (by decide) (fun G => c_F_strikesOf l G d i q hw h6 hi) (fun _ _ => rfl) ((e6 i hi).2.1.trans hr)
theorem qa_probationOf (i : Nat) {r : Int32} (h : q_R B d z hs) (hi : i < q_w z) (hr : z (74 + i) = r) : q_A l B d z hs yX11_probationOf wsX11_probationOf (fun G => [.ref (x_b G + 0), .int (nI i)]) r := by
  obtain ⟨⟨n, q, t⟩, -⟩ := id h
  obtain ⟨qn, qw⟩ := q_nw t
  obtain ⟨⟨hn, hn2, hw, hw2, e5, e6, e7⟩, ⟨h8, h6, v3, v4, v5⟩, -, -⟩ := id t
  have hi : i < q := by rw [← qw]; exact hi
  exact q_A_of h (by decide) (fun G => c_F_probationOf l G d i q hw h6 hi) (fun _ _ => rfl) ((e6 i hi).2.2.trans hr)
theorem qa_isMember (i : Nat) {r : Int32} (h : q_R B d z hs) (hi : i < q_w z) (hr : x_bi (z (74 + i) = 0) = r) : q_A l B d z hs yX11_isMember wsX11_isMember (fun G => [.ref (x_b G + 0), .int (nI i)]) r := by
  obtain ⟨⟨n, q, t⟩, -⟩ := id h
  obtain ⟨qn, qw⟩ := q_nw t
  obtain ⟨⟨hn, hn2, hw, hw2, e5, e6, e7⟩, ⟨h8, h6, v3, v4, v5⟩, -, -⟩ := id t
  have hi : i < q := by rw [← qw]; exact hi
  obtain ⟨a, ha, hva⟩ := (v4 i hi).2.2
  exact q_A_of h (by decide) (fun G => c_F_isMember l G d i q hw h6 hi) (fun _ _ => rfl) ((o_mem ha hva (e6 i hi).2.2).trans hr)
theorem qa_canBurn (i : Nat) {r : Int32} (h : q_R B d z hs) (hi : i < q_n z) (hr : x_bi (g_rdy z i = true) = r) : q_A l B d z hs yX11_canBurn wsX11_canBurn (fun G => [.ref (x_b G + 0), .int (nI i)]) r := by
  obtain ⟨⟨n, q, t⟩, -⟩ := id h
  obtain ⟨qn, qw⟩ := q_nw t
  obtain ⟨⟨hn, hn2, hw, hw2, e5, e6, e7⟩, ⟨h8, h6, v3, v4, v5⟩, -, -⟩ := id t
  have hi : i < n := by rw [← qn]; exact hi
  exact q_A_of h (by decide) (fun G => c_F_canBurn l G d i n hn h8 hi) (fun _ _ => rfl) (by rw [t_rdy t.1 t.2.1 hi]; exact hr)
theorem qa_mothCount {r : Int32} (h : q_R B d z hs) (hr : z 1 = r) : q_A l B d z hs yX11_mothCount wsX11_mothCount (fun G => [.ref (x_b G + 0)]) r := by
  obtain ⟨⟨n, q, t⟩, -⟩ := id h
  exact q_A_of h (by decide) (fun G => c_F_mothCount l G d) (fun _ _ => rfl) ((t.1.2.2.1.trans t.1.2.2.2.1.symm).trans hr)
theorem qa_reserve {r : Int32} (h : q_R B d z hs) (hr : z 3 = r) : q_A l B d z hs yX11_reserve wsX11_reserve (fun G => [.ref (x_b G + 0)]) r := by
  obtain ⟨⟨n, q, t⟩, -⟩ := id h
  exact q_A_of h (by decide) (fun G => c_F_reserve l G d) (fun _ _ => rfl) (t.1.2.2.2.2.2.2.2.1.trans hr)
theorem qa_pool {r : Int32} (h : q_R B d z hs) (hr : z 4 = r) : q_A l B d z hs yX11_pool wsX11_pool (fun G => [.ref (x_b G + 0)]) r := by
  obtain ⟨⟨n, q, t⟩, -⟩ := id h
  exact q_A_of h (by decide) (fun G => c_F_pool l G d) (fun _ _ => rfl) (t.1.2.2.2.2.2.2.2.2.1.trans hr)
theorem qa_treasury {r : Int32} (h : q_R B d z hs) (hr : z 5 = r) : q_A l B d z hs yX11_treasury wsX11_treasury (fun G => [.ref (x_b G + 0)]) r := by
  obtain ⟨⟨n, q, t⟩, -⟩ := id h
  exact q_A_of h (by decide) (fun G => c_F_treasury l G d) (fun _ _ => rfl) (t.1.2.2.2.2.2.2.2.2.2.trans hr)
theorem qa_totalShares {r : Int32} (h : q_R B d z hs) (hr : f_sum (g_row z 14) (q_n z) = r) : q_A l B d z hs yX11_totalShares wsX11_totalShares (fun G => [.ref (x_b G + 0)]) r := by
  obtain ⟨⟨n, q, t⟩, -⟩ := id h
  obtain ⟨qn, qw⟩ := q_nw t
  obtain ⟨⟨hn, hn2, hw, hw2, e5, e6, e7⟩, ⟨h8, h6, v3, v4, v5⟩, -, -⟩ := id t
  exact q_A_of h (by decide) (fun G => c_F_totalShares l G d n hn h8) (fun _ _ => rfl) ((o_sum (fun i hi => (e5 i hi).2.1)).trans (by rw [← qn]; exact hr))
theorem qa_isDark {x r : Int32} (h : q_R B d z hs) (hx : 0 ≤ x ∧ x ≤ 3) (hr : x_bi (g_glow z x (q_n z) = 0) = r) : q_A l B d z hs yX11_isDark wsX11_isDark (fun G => [.ref (x_b G + 0), .int x]) r := by
  obtain ⟨⟨n, q, t⟩, -⟩ := id h
  obtain ⟨qn, qw⟩ := q_nw t
  obtain ⟨⟨hn, hn2, hw, hw2, e5, e6, e7⟩, ⟨h8, h6, v3, v4, v5⟩, -, -⟩ := id t
  exact q_A_of h (by decide) (fun G => c_F_isDark l G d x hx n hn h8) (fun _ _ => rfl) (by rw [o_glow t x n (Nat.le_refl n), ← qn]; exact hr)
theorem qa_glowOf {x r : Int32} (h : q_R B d z hs) (hx : 0 ≤ x ∧ x ≤ 3) (hr : g_glow z x (q_n z) = r) : q_A l B d z hs yX11_glowOf wsX11_glowOf (fun G => [.ref (x_b G + 0), .int x]) r := by
  obtain ⟨⟨n, q, t⟩, -⟩ := id h
  obtain ⟨qn, qw⟩ := q_nw t
  obtain ⟨⟨hn, hn2, hw, hw2, e5, e6, e7⟩, ⟨h8, h6, v3, v4, v5⟩, -, -⟩ := id t
  exact q_A_of h (by decide) (fun G => c_F_glowOf l G d x hx n hn h8) (fun _ _ => rfl) (by rw [o_glow t x n (Nat.le_refl n), ← qn]; exact hr)
theorem qa_brightestStreet {r : Int32} (h : q_R B d z hs) (hr : g_bs (fun x => g_glow z x (q_n z)) 3 = r) : q_A l B d z hs yX11_brightestStreet wsX11_brightestStreet (fun G => [.ref (x_b G + 0)]) r := by
  obtain ⟨⟨n, q, t⟩, -⟩ := id h
  obtain ⟨qn, qw⟩ := q_nw t
  obtain ⟨⟨hn, hn2, hw, hw2, e5, e6, e7⟩, ⟨h8, h6, v3, v4, v5⟩, -, -⟩ := id t
  have er : f_bs (fun x => f_glow d 1 x n) 3 = g_bs (fun x => g_glow z x n) 3 := (congrArg (fun f => f_bs f 3) (funext fun x => o_glow t x n (Nat.le_refl n))).trans (o_bs _ 3)
  exact q_A_of h (by decide) (fun G => c_F_brightestStreet l G d n hn h8) (fun _ _ => rfl) (er.trans (by rw [← qn]; exact hr))
theorem qa_votesFor {x r : Int32} (h : q_R B d z hs) (hx : 1 ≤ x ∧ x ≤ 5) (hr : g_vot z x (q_n z) = r) : q_A l B d z hs yX11_votesFor wsX11_votesFor (fun G => [.ref (x_b G + 0), .int x]) r := by
  obtain ⟨⟨n, q, t⟩, -⟩ := id h
  obtain ⟨qn, qw⟩ := q_nw t
  obtain ⟨⟨hn, hn2, hw, hw2, e5, e6, e7⟩, ⟨h8, h6, v3, v4, v5⟩, -, -⟩ := id t
  exact q_A_of h (by decide) (fun G => c_F_votesFor l G d x hx n hn h8) (fun _ _ => rfl) ((o_vot t.1 x n (Nat.le_refl n)).trans (by rw [← qn]; exact hr))
theorem qa_lowestCap {r : Int32} (k : Nat) (h : q_R B d z hs) (h1 : 1 ≤ q_n z) (hk : k < 5) (hk1 : g_car z (q_n z) (nI (k + 1)) = true) (hk0 : ∀ j, j < k → ¬ g_car z (q_n z) (nI (j + 1)) = true) (hr : nI (k + 1) = r) : q_A l B d z hs yX11_lowestCap wsX11_lowestCap (fun G => [.ref (x_b G + 0)]) r := by
  obtain ⟨⟨n, q, t⟩, -⟩ := id h
  obtain ⟨qn, qw⟩ := q_nw t
  obtain ⟨⟨hn, hn2, hw, hw2, e5, e6, e7⟩, ⟨h8, h6, v3, v4, v5⟩, -, -⟩ := id t
  rw [qn] at h1 hk1 hk0
  exact q_A_of h (by decide) (fun G => c_F_lowestCap l G d n hn h8 h1 k hk (Or.inr ((o_wc t).trans hk1)) (fun j hj y => hk0 j hj ((o_wc t).symm.trans y))) (fun _ _ => rfl) hr
theorem q_nf (h : r_T B d 1 z n w) {i : Nat} (hi : i < n) : f_nf d 1 i = nI (min (q_i (z (38 + i)) / q_i (z (22 + i))) (q_i (z (46 + i)))) ∧ 0 < q_i (z (22 + i)) ∧ q_i (z (22 + i)) ≤ 5 ∧ q_i (z (38 + i)) ≤ 60 ∧ q_i (z (46 + i)) ≤ 9 ∧ d 5 i = nI (q_i (z (22 + i))) ∧ d 7 i = nI (q_i (z (38 + i))) ∧ d 8 i = nI (q_i (z (46 + i))) := by
  obtain ⟨⟨hn, hn2, hw, hw2, e5, e6, e7⟩, ⟨h8, h6, v3, v4, v5⟩, -, -⟩ := h
  obtain ⟨-, -, ⟨b, b1, b2, hb⟩, ⟨o, o1, ho⟩, ⟨u, u1, hu⟩⟩ := v3 i hi
  have hb : d 5 i = nI b := hb
  have ho : d 7 i = nI o := ho
  have hu : d 8 i = nI u := hu
  have hb2 : z (22 + i) = nI b := (e5 i hi).2.2.1.symm.trans hb
  have ho2 : z (38 + i) = nI o := (e5 i hi).2.2.2.2.1.symm.trans ho
  have hu2 : z (46 + i) = nI u := (e5 i hi).2.2.2.2.2.1.symm.trans hu
  rw [hb2, ho2, hu2, q_i_n (by omega), q_i_n (by omega), q_i_n (by omega)]
  exact ⟨o_nf hb ho hu b1 b2 o1 u1, b1, b2, o1, u1, hb, ho, hu⟩
theorem qa_nightsOf (i : Nat) {r : Int32} (h : q_R B d z hs) (hi : i < q_n z) (hr : nI (min (q_i (z (38 + i)) / q_i (z (22 + i))) (q_i (z (46 + i)))) = r) : q_A l B d z hs yX11_nightsOf wsX11_nightsOf (fun G => [.ref (x_b G + 0), .int (nI i)]) r := by
  obtain ⟨⟨n, q, t⟩, -⟩ := id h
  obtain ⟨qn, qw⟩ := q_nw t
  have hi : i < n := by rw [← qn]; exact hi
  exact q_A_of h (by decide) (fun G => c_F_nightsOf l G d i n t.1.1 t.2.1.1 hi) (fun _ _ => rfl) ((q_nf t hi).1.trans hr)
theorem qa_nightsBySimulation (i : Nat) {r : Int32} (h : q_R B d z hs) (hi : i < q_n z) (hr : nI (min (q_i (z (38 + i)) / q_i (z (22 + i))) (q_i (z (46 + i)))) = r) : q_A l B d z hs yX11_nightsBySimulation wsX11_nightsBySimulation (fun G => [.ref (x_b G + 0), .int (nI i)]) r := by
  obtain ⟨⟨n, q, t⟩, -⟩ := id h
  obtain ⟨qn, qw⟩ := q_nw t
  have hi : i < n := by rw [← qn]; exact hi
  obtain ⟨-, g1, g2, g3, g4, g5, g6, g7⟩ := q_nf t hi
  exact q_A_of h (by decide) (fun G => c_F_nightsBySimulation l G d i n t.1.1 t.2.1.1 hi _ _ _ g6 g5 g7 (by omega) g1 (by omega) (by omega)) (fun _ _ => rfl) hr
theorem qa_richestLamp (x k9 : Nat) {r2 : Int32} (h : q_R B d z hs) (hx : x < q_n z) (hk9 : k9 < q_n z) (hr : ∀ j, j < q_n z → z (54 + j) = nI (q_i (z (54 + j))) ∧ q_i (z (54 + j)) < 100000) (hk1 : g_ah (fun j => q_i (z (54 + j))) k9 (q_n z) = x) (hk0 : ∀ j, j < k9 → ¬ g_ah (fun j => q_i (z (54 + j))) j (q_n z) = x) (hr2 : nI k9 = r2) : q_A l B d z hs yX11_richestLamp wsX11_richestLamp (fun G => [.ref (x_b G + 0), .int (nI x)]) r2 := by
  obtain ⟨⟨n, q, t⟩, -⟩ := id h
  obtain ⟨qn, qw⟩ := q_nw t
  obtain ⟨⟨hn, hn2, hw, hw2, e5, e6, e7⟩, ⟨h8, h6, v3, v4, v5⟩, -, -⟩ := id t
  rw [qn] at hx hk9 hr hk1 hk0
  exact q_A_of h (by decide) (fun G => c_F_richestLamp l G d n hn h8 (fun j => q_i (z (54 + j))) (fun j hj => (hr j hj).2) (fun j hj => (e5 j hj).2.2.2.2.2.2.trans (hr j hj).1) x hx k9 hk9 hk1 hk0) (fun k hk => x_r_ne2 (by omega)) hr2
theorem qa_longestLamp (x k9 : Nat) {r2 : Int32} (h : q_R B d z hs) (hx : x < q_n z) (hk9 : k9 < q_n z) (hk1 : g_ah (fun j => min (q_i (z (38 + j)) / q_i (z (22 + j))) (q_i (z (46 + j)))) k9 (q_n z) = x) (hk0 : ∀ j, j < k9 → ¬ g_ah (fun j => min (q_i (z (38 + j)) / q_i (z (22 + j))) (q_i (z (46 + j)))) j (q_n z) = x) (hr2 : nI k9 = r2) : q_A l B d z hs yX11_longestLamp wsX11_longestLamp (fun G => [.ref (x_b G + 0), .int (nI x)]) r2 := by
  obtain ⟨⟨n, q, t⟩, -⟩ := id h
  obtain ⟨qn, qw⟩ := q_nw t
  obtain ⟨⟨hn, hn2, hw, hw2, e5, e6, e7⟩, ⟨h8, h6, v3, v4, v5⟩, -, -⟩ := id t
  rw [qn] at hx hk9 hk1 hk0
  exact q_A_of h (by decide) (fun G => c_F_longestLamp l G d n hn h8 (fun j => min (q_i (z (38 + j)) / q_i (z (22 + j))) (q_i (z (46 + j)))) (fun j hj => by
    obtain ⟨-, g1, g2, g3, g4, -⟩ := q_nf t hj
    show min _ _ < 100000
    omega) (fun j hj => (q_nf t hj).1) x hx k9 hk9 hk1 hk0) (fun k hk => x_r_ne2 (by omega)) hr2
theorem qa_portionOf (i a : Nat) {r : Int32} (h : q_R B d z hs) (hi : i < q_n z) (ha : a ≤ 999) (hr : nI (q_por z a i) = r) : q_A l B d z hs yX11_portionOf wsX11_portionOf (fun G => [.ref (x_b G + 0), .int (nI i), .int (nI a)]) r := by
  obtain ⟨⟨n, q, t⟩, -⟩ := id h
  obtain ⟨qn, qw⟩ := q_nw t
  obtain ⟨⟨hn, hn2, hw, hw2, e5, e6, e7⟩, ⟨h8, h6, v3, v4, v5⟩, -, -⟩ := id t
  obtain ⟨s1, s2, s3⟩ := q_shf t
  unfold q_por at hr
  rw [qn] at hi hr
  have s3 := s3 (by omega)
  have h0 : f_rpor d 1 (nI i) (nI a) = 0 := by
    rcases o_rpor (nI i) (nI a) hn h8 with ⟨h0, -⟩ | ⟨-, hx⟩ | ⟨-, -, hu⟩
    · exact h0
    · exact absurd (x_in9 hi (by omega)) hx
    · exact absurd ⟨nI_pos' (by omega), (show nI a ≤ nI 999 from nI_le ha (by omega))⟩ hu
  exact q_A_of h (by decide) (fun G => c_F_portionOf l G d i n hn h8 hi a (q_sh z) s1 s2 s3 (by omega) h0) (fun k hk => f_dbs_out (by omega)) ((s_por h8 s2 s3 hi).trans hr)
theorem qa_portionByRounds (i a : Nat) {r : Int32} (h : q_R B d z hs) (hi : i < q_n z) (ha : a ≤ 999) (hr : nI (q_por z a i) = r) : q_A l B d z hs yX11_portionByRounds wsX11_portionByRounds (fun G => [.ref (x_b G + 0), .int (nI i), .int (nI a)]) r := by
  obtain ⟨⟨n, q, t⟩, -⟩ := id h
  obtain ⟨qn, qw⟩ := q_nw t
  obtain ⟨⟨hn, hn2, hw, hw2, e5, e6, e7⟩, ⟨h8, h6, v3, v4, v5⟩, -, -⟩ := id t
  obtain ⟨s1, s2, s3⟩ := q_shf t
  unfold q_por at hr
  rw [qn] at hi hr
  have s3 := s3 (by omega)
  have h0 : f_rpor d 1 (nI i) (nI a) = 0 := by
    rcases o_rpor (nI i) (nI a) hn h8 with ⟨h0, -⟩ | ⟨-, hx⟩ | ⟨-, -, hu⟩
    · exact h0
    · exact absurd (x_in9 hi (by omega)) hx
    · exact absurd ⟨nI_pos' (by omega), (show nI a ≤ nI 999 from nI_le ha (by omega))⟩ hu
  obtain ⟨n, rfl⟩ : ∃ j, n = j + 1 := ⟨n - 1, by omega⟩
  exact q_A_of h (by decide) (fun G => c_F_portionByRounds l G d i n hn h8 hi a (q_sh z) s1 s2 s3 (by omega) h0) (fun k hk => f_dir_out (by omega)) ((s_prr h8 s2 s3 hi).trans hr)
theorem qa_isBalanced {r : Int32} (h : q_R B d z hs) (hr : (1 : Int32) = r) : q_A l B d z hs yX11_isBalanced wsX11_isBalanced (fun G => [.ref (x_b G + 0)]) r := by
  obtain ⟨⟨n, q, t⟩, -⟩ := id h
  obtain ⟨⟨hn, hn2, hw, hw2, e5, e6, e7⟩, ⟨h8, h6, v3, v4, v5⟩, -, bl⟩ := id t
  rcases Nat.eq_zero_or_pos n with h0 | h1
  · subst h0
    exact q_A_of h (by decide) (fun G => c_F_isBalanced l G d 0 hn h8 bl d (c_F_agree_0 l G d hn)) (fun _ _ => rfl) hr
  · obtain ⟨m, rfl⟩ : ∃ j, n = j + 1 := ⟨n - 1, by omega⟩
    obtain ⟨sh, s1, s2, s3⟩ := r_sh t.2.1
    exact q_A_of h (by decide) (fun G => c_F_isBalanced l G d (m + 1) hn h8 bl _ (c_F_agree l G d m hn h8 sh s1 s2 (s3 (by omega)))) (fun k hk => f_ag_out (by omega) 21) hr
end QA
