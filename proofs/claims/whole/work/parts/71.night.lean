-- STAND-INS
theorem n : True := trivial
theorem i : True := trivial
theorem k : True := trivial
theorem q : True := trivial
theorem u : True := trivial
theorem v : True := trivial
theorem w : True := trivial
theorem j : True := trivial
theorem o : True := trivial
theorem a : True := trivial
theorem b : True := trivial
theorem y : True := trivial
theorem z : True := trivial
theorem r : True := trivial
theorem t : True := trivial
theorem f : True := trivial
theorem g : True := trivial
theorem o2 : True := trivial
theorem a2 : True := trivial
theorem hlt : True := trivial
theorem hltk : True := trivial
theorem hlt3 : True := trivial
theorem hlt4 : True := trivial
theorem hn : True := trivial
theorem hq : True := trivial
theorem hm : True := trivial
theorem hi : True := trivial
theorem hi2 : True := trivial
theorem hi3 : True := trivial
theorem hk : True := trivial
theorem hj : True := trivial
theorem hb : True := trivial
theorem hs : True := trivial
theorem hw : True := trivial
theorem hx : True := trivial
theorem hz : True := trivial
theorem hv : True := trivial
theorem hr : True := trivial
theorem hc : True := trivial
theorem hu : True := trivial
theorem hp : True := trivial
theorem hl : True := trivial
theorem hh : True := trivial
theorem e : True := trivial
theorem e9 : True := trivial
theorem sh : True := trivial
theorem a0 : True := trivial
theorem c9 : True := trivial
theorem k9 : True := trivial
theorem m9 : True := trivial
theorem mm : True := trivial
theorem ha : True := trivial
theorem ho : True := trivial
theorem hS : True := trivial
theorem ha0 : True := trivial
theorem hs9 : True := trivial
theorem hk0 : True := trivial
theorem hk1 : True := trivial
theorem hk9 : True := trivial
theorem hap : True := trivial
theorem hoo : True := trivial
theorem qh : True := trivial
theorem ex : True := trivial
theorem ih : True := trivial
theorem ihk : True := trivial
theorem ih1 : True := trivial
theorem ih2 : True := trivial
theorem ih3 : True := trivial
theorem ih4 : True := trivial
theorem ihj : True := trivial
theorem st : True := trivial
theorem lst : True := trivial
theorem args0 : True := trivial
theorem hcn : True := trivial
theorem hcir : True := trivial
theorem q8 : True := trivial
theorem z8 : True := trivial
theorem h0 : True := trivial
theorem h1 : True := trivial
theorem h2 : True := trivial
theorem h3 : True := trivial
theorem h4 : True := trivial
theorem h5 : True := trivial
theorem h7 : True := trivial
theorem h10 : True := trivial
theorem h11 : True := trivial
theorem h12 : True := trivial
theorem h13 : True := trivial
theorem h14 : True := trivial
theorem h15 : True := trivial
theorem h16 : True := trivial
theorem h17 : True := trivial
theorem h18 : True := trivial
theorem h19 : True := trivial
theorem h20 : True := trivial
theorem h21 : True := trivial
theorem h22 : True := trivial
theorem h23 : True := trivial
theorem h24 : True := trivial
theorem h25 : True := trivial
theorem h26 : True := trivial
theorem h27 : True := trivial
theorem h28 : True := trivial
theorem h29 : True := trivial
theorem h30 : True := trivial
theorem h31 : True := trivial
theorem h32 : True := trivial
theorem h33 : True := trivial
theorem h34 : True := trivial
theorem h35 : True := trivial
theorem h36 : True := trivial
theorem h37 : True := trivial
theorem h38 : True := trivial
theorem h39 : True := trivial
theorem h40 : True := trivial
theorem h41 : True := trivial
theorem h42 : True := trivial
theorem h43 : True := trivial
theorem h44 : True := trivial
theorem h45 : True := trivial
theorem h46 : True := trivial
theorem h47 : True := trivial
theorem h48 : True := trivial
theorem h49 : True := trivial
theorem h50 : True := trivial
theorem h51 : True := trivial
theorem h52 : True := trivial
theorem h53 : True := trivial
theorem h54 : True := trivial
theorem h55 : True := trivial
theorem h56 : True := trivial
theorem h57 : True := trivial
theorem h58 : True := trivial
theorem h59 : True := trivial
theorem h60 : True := trivial
theorem h61 : True := trivial
theorem h62 : True := trivial
theorem h63 : True := trivial
theorem h64 : True := trivial
theorem h65 : True := trivial
theorem h66 : True := trivial
theorem h67 : True := trivial
theorem h68 : True := trivial
theorem h69 : True := trivial
theorem h70 : True := trivial
theorem h71 : True := trivial
theorem h72 : True := trivial
theorem h73 : True := trivial
theorem h74 : True := trivial
theorem h75 : True := trivial
theorem h76 : True := trivial
theorem h77 : True := trivial
theorem h78 : True := trivial
theorem h79 : True := trivial
theorem h80 : True := trivial
theorem h81 : True := trivial
theorem h82 : True := trivial
theorem h83 : True := trivial
theorem h84 : True := trivial
theorem h85 : True := trivial
theorem h86 : True := trivial
theorem h87 : True := trivial
theorem h88 : True := trivial
theorem h89 : True := trivial
theorem h90 : True := trivial
theorem h91 : True := trivial
theorem h92 : True := trivial
theorem h93 : True := trivial
theorem h94 : True := trivial
theorem h95 : True := trivial
theorem h96 : True := trivial
theorem h97 : True := trivial
theorem h98 : True := trivial
theorem h99 : True := trivial
theorem h100 : True := trivial
theorem h101 : True := trivial
theorem h102 : True := trivial
theorem h103 : True := trivial
theorem h104 : True := trivial
theorem h105 : True := trivial
theorem h106 : True := trivial
theorem h107 : True := trivial
theorem h108 : True := trivial
theorem h109 : True := trivial
theorem h110 : True := trivial
theorem h111 : True := trivial
theorem h112 : True := trivial
theorem h113 : True := trivial
theorem h114 : True := trivial
theorem h115 : True := trivial
theorem h116 : True := trivial
theorem h117 : True := trivial
theorem h118 : True := trivial
theorem h119 : True := trivial
theorem h120 : True := trivial
theorem h121 : True := trivial
theorem h122 : True := trivial
theorem h123 : True := trivial
theorem h124 : True := trivial
theorem h125 : True := trivial
theorem h126 : True := trivial
theorem h127 : True := trivial
theorem h128 : True := trivial
theorem h129 : True := trivial
theorem h130 : True := trivial
theorem h131 : True := trivial
theorem h132 : True := trivial
theorem h133 : True := trivial
theorem h134 : True := trivial
theorem h135 : True := trivial
theorem h136 : True := trivial
theorem h137 : True := trivial
theorem h138 : True := trivial
theorem h139 : True := trivial
theorem h140 : True := trivial
theorem h141 : True := trivial
theorem h142 : True := trivial
theorem h143 : True := trivial
theorem h144 : True := trivial
theorem h145 : True := trivial
theorem h146 : True := trivial
theorem h147 : True := trivial
theorem h148 : True := trivial
theorem h149 : True := trivial
theorem h150 : True := trivial
theorem h151 : True := trivial
theorem h152 : True := trivial
theorem h153 : True := trivial
theorem h154 : True := trivial
theorem h155 : True := trivial
theorem h156 : True := trivial
theorem h157 : True := trivial
theorem h158 : True := trivial
theorem h159 : True := trivial
theorem h160 : True := trivial
theorem h161 : True := trivial
theorem h162 : True := trivial
theorem h163 : True := trivial
theorem h164 : True := trivial
theorem h165 : True := trivial
theorem h166 : True := trivial
theorem h167 : True := trivial
theorem h168 : True := trivial
theorem h169 : True := trivial
theorem h170 : True := trivial
theorem h171 : True := trivial
theorem h172 : True := trivial
theorem h173 : True := trivial
theorem h174 : True := trivial
theorem h175 : True := trivial
theorem h176 : True := trivial
theorem h177 : True := trivial
theorem h178 : True := trivial
theorem h179 : True := trivial
theorem h180 : True := trivial
theorem h181 : True := trivial
theorem h182 : True := trivial
theorem h183 : True := trivial
theorem h184 : True := trivial
theorem h185 : True := trivial
theorem h186 : True := trivial
theorem h187 : True := trivial
theorem h188 : True := trivial
theorem h189 : True := trivial
theorem h190 : True := trivial
theorem h191 : True := trivial
theorem h192 : True := trivial
theorem h193 : True := trivial
theorem h194 : True := trivial
theorem h195 : True := trivial
theorem h196 : True := trivial
theorem h197 : True := trivial
theorem h198 : True := trivial
theorem h199 : True := trivial
theorem L0 : True := trivial
theorem L1 : True := trivial
theorem L2 : True := trivial
theorem L3 : True := trivial
theorem L4 : True := trivial
theorem L5 : True := trivial
theorem L6 : True := trivial
theorem L7 : True := trivial
theorem L8 : True := trivial
theorem L9 : True := trivial
theorem L10 : True := trivial
theorem L11 : True := trivial
theorem L12 : True := trivial
theorem L13 : True := trivial
theorem L14 : True := trivial
theorem L15 : True := trivial
theorem L16 : True := trivial
theorem L17 : True := trivial
theorem L18 : True := trivial
theorem L19 : True := trivial
theorem L20 : True := trivial
theorem L21 : True := trivial
theorem L22 : True := trivial
theorem L23 : True := trivial
theorem L24 : True := trivial
theorem L25 : True := trivial
theorem L26 : True := trivial
theorem L27 : True := trivial
theorem L28 : True := trivial
theorem L29 : True := trivial
theorem L30 : True := trivial
theorem L31 : True := trivial
theorem L32 : True := trivial
theorem L33 : True := trivial
theorem L34 : True := trivial
theorem L35 : True := trivial
theorem L36 : True := trivial
theorem L37 : True := trivial
theorem L38 : True := trivial
theorem L39 : True := trivial
theorem L40 : True := trivial
theorem L41 : True := trivial
theorem L42 : True := trivial
theorem L43 : True := trivial
theorem L44 : True := trivial
theorem L45 : True := trivial
theorem L46 : True := trivial
theorem L47 : True := trivial
theorem L48 : True := trivial
theorem L49 : True := trivial
theorem L50 : True := trivial
theorem L51 : True := trivial
theorem L52 : True := trivial
theorem L53 : True := trivial
theorem L54 : True := trivial
theorem L55 : True := trivial
theorem L56 : True := trivial
theorem L57 : True := trivial
theorem L58 : True := trivial
theorem L59 : True := trivial
theorem L60 : True := trivial
theorem L61 : True := trivial
theorem L62 : True := trivial
theorem L63 : True := trivial
theorem L64 : True := trivial
theorem L65 : True := trivial
theorem L66 : True := trivial
theorem L67 : True := trivial
theorem L68 : True := trivial
theorem L69 : True := trivial
theorem L70 : True := trivial
theorem L71 : True := trivial
theorem L72 : True := trivial
theorem L73 : True := trivial
theorem L74 : True := trivial
theorem L75 : True := trivial
theorem L76 : True := trivial
theorem L77 : True := trivial
theorem L78 : True := trivial
theorem L79 : True := trivial
theorem L80 : True := trivial
theorem L81 : True := trivial
theorem L82 : True := trivial
theorem L83 : True := trivial
theorem L84 : True := trivial
theorem L85 : True := trivial
theorem L86 : True := trivial
theorem L87 : True := trivial
theorem L88 : True := trivial
theorem L89 : True := trivial
theorem L90 : True := trivial
theorem L91 : True := trivial
theorem L92 : True := trivial
theorem L93 : True := trivial
theorem L94 : True := trivial
theorem L95 : True := trivial
theorem L96 : True := trivial
theorem L97 : True := trivial
theorem L98 : True := trivial
theorem L99 : True := trivial
theorem L100 : True := trivial
theorem L101 : True := trivial
theorem L102 : True := trivial
theorem L103 : True := trivial
theorem L104 : True := trivial
theorem L105 : True := trivial
theorem L106 : True := trivial
theorem L107 : True := trivial
theorem L108 : True := trivial
theorem L109 : True := trivial
theorem L110 : True := trivial
theorem L111 : True := trivial
theorem L112 : True := trivial
theorem L113 : True := trivial
theorem L114 : True := trivial
theorem L115 : True := trivial
theorem L116 : True := trivial
theorem L117 : True := trivial
theorem L118 : True := trivial
theorem L119 : True := trivial
theorem L120 : True := trivial
theorem L121 : True := trivial
theorem L122 : True := trivial
theorem L123 : True := trivial
theorem L124 : True := trivial
theorem L125 : True := trivial
theorem L126 : True := trivial
theorem L127 : True := trivial
theorem L128 : True := trivial
theorem L129 : True := trivial
theorem L130 : True := trivial
theorem L131 : True := trivial
theorem L132 : True := trivial
theorem L133 : True := trivial
theorem L134 : True := trivial
theorem L135 : True := trivial
theorem L136 : True := trivial
theorem L137 : True := trivial
theorem L138 : True := trivial
theorem L139 : True := trivial
theorem L140 : True := trivial
theorem L141 : True := trivial
theorem L142 : True := trivial
theorem L143 : True := trivial
theorem L144 : True := trivial
theorem L145 : True := trivial
theorem L146 : True := trivial
theorem L147 : True := trivial
theorem L148 : True := trivial
theorem L149 : True := trivial
theorem L150 : True := trivial
theorem L151 : True := trivial
theorem L152 : True := trivial
theorem L153 : True := trivial
theorem L154 : True := trivial
theorem L155 : True := trivial
theorem L156 : True := trivial
theorem L157 : True := trivial
theorem L158 : True := trivial
theorem L159 : True := trivial
theorem L160 : True := trivial
theorem L161 : True := trivial
theorem L162 : True := trivial
theorem L163 : True := trivial
theorem L164 : True := trivial
theorem L165 : True := trivial
theorem L166 : True := trivial
theorem L167 : True := trivial
theorem L168 : True := trivial
theorem L169 : True := trivial
theorem L170 : True := trivial
theorem L171 : True := trivial
theorem L172 : True := trivial
theorem L173 : True := trivial
theorem L174 : True := trivial
theorem L175 : True := trivial
theorem L176 : True := trivial
theorem L177 : True := trivial
theorem L178 : True := trivial
theorem L179 : True := trivial
theorem L180 : True := trivial
theorem L181 : True := trivial
theorem L182 : True := trivial
theorem L183 : True := trivial
theorem L184 : True := trivial
theorem L185 : True := trivial
theorem L186 : True := trivial
theorem L187 : True := trivial
theorem L188 : True := trivial
theorem L189 : True := trivial
theorem L190 : True := trivial
theorem L191 : True := trivial
theorem L192 : True := trivial
theorem L193 : True := trivial
theorem L194 : True := trivial
theorem L195 : True := trivial
theorem L196 : True := trivial
theorem L197 : True := trivial
theorem L198 : True := trivial
theorem L199 : True := trivial
-- STAND-INS
/-! moths leave -/
theorem k_mono (s : Nat → Int32) : ∀ {i j : Nat}, i ≤ j → f_k s i ≤ f_k s j := by
  intro i j h
  induction j with
  | zero =>
    have e : i = 0 := by omega
    subst e; exact Nat.le_refl _
  | succ j ih =>
    rcases Nat.lt_or_ge i (j + 1) with z | z
    · have h1 := ih (by omega)
      rw [f_k]
      split <;> omega
    · have e : i = j + 1 := by omega
      subst e; exact Nat.le_refl _
theorem k_s {s : Nat → Int32} {i : Nat} (h : s i < 2) : f_k s (i + 1) = f_k s i + 1 := by rw [f_k, if_pos h]
theorem k_n {s : Nat → Int32} {i : Nat} (h : ¬ s i < 2) : f_k s (i + 1) = f_k s i := by rw [f_k, if_neg h]
theorem k_step (s : Nat → Int32) (i j : Nat) (h : i ≤ j) : f_k s j ≤ f_k s i + (j - i) := by
  induction j with
  | zero =>
    have e : i = 0 := by omega
    subst e; exact Nat.le_refl _
  | succ j ih =>
    rcases Nat.lt_or_ge i (j + 1) with z | z
    · have h1 := ih (by omega)
      rw [f_k]
      split <;> omega
    · have e : i = j + 1 := by omega
      subst e; omega
/-- each place below the count is a staying one's -/
theorem k_onto (s : Nat → Int32) : ∀ q t, t < f_k s q → ∃ j, j < q ∧ s j < 2 ∧ f_k s j = t
  | 0, t, h => absurd h (Nat.not_lt_zero t)
  | q + 1, t, h => by
    by_cases y : s q < 2
    · rw [k_s y] at h
      rcases Nat.lt_or_ge t (f_k s q) with z | z
      · obtain ⟨j, h1, h2, h3⟩ := k_onto s q t z
        exact ⟨j, by omega, h2, h3⟩
      · exact ⟨q, by omega, y, by omega⟩
    · rw [k_n y] at h
      obtain ⟨j, h1, h2, h3⟩ := k_onto s q t h
      exact ⟨j, by omega, h2, h3⟩
theorem c_cmp (g s : Nat → Int32) : ∀ q j, j < q → s j < 2 → f_cmp g s q (f_k s j) = g j
  | 0, j, h, _ => absurd h (Nat.not_lt_zero j)
  | q + 1, j, h, hs => by
    rw [f_cmp]
    rcases Nat.lt_or_ge j q with z | z
    · have ih := c_cmp g s q j z hs
      by_cases y : s q < 2
      · rw [if_pos y]
        have h1 : f_k s (j + 1) ≤ f_k s q := k_mono s (by omega)
        rw [k_s hs] at h1
        rw [x_upd_ne (by omega)]
        exact ih
      · rw [if_neg y]
        exact ih
    · have e : j = q := by omega
      subst e
      rw [if_pos hs, x_upd_at]
theorem g_lv1_at {z : Nat → Int32} {w b p : Nat} (hw : w < 6) (hb : b = 62 ∨ b = 68 ∨ b = 74) (hp : p < 5) (h : z (68 + w) = 2) : g_lv1 z w (b + p) = if p < w then z (b + p) else z (b + p + 1) := by
  unfold g_lv1
  rw [if_pos h, x_upd_ne (by omega)]
  unfold g_cgp
  rcases hb with rfl | rfl | rfl
  · rw [if_neg (show ¬ 62 + p = 74 + 6 - 1 by omega), if_neg (show ¬ (74 + w ≤ 62 + p ∧ 62 + p < 74 + 6 - 1) by omega), if_neg (show ¬ 62 + p = 68 + 6 - 1 by omega), if_neg (show ¬ (68 + w ≤ 62 + p ∧ 62 + p < 68 + 6 - 1) by omega), if_neg (show ¬ 62 + p = 62 + 6 - 1 by omega)]
    by_cases y : p < w
    · rw [if_pos y, if_neg (show ¬ (62 + w ≤ 62 + p ∧ 62 + p < 62 + 6 - 1) by omega)]
    · rw [if_neg y, if_pos (show 62 + w ≤ 62 + p ∧ 62 + p < 62 + 6 - 1 by omega)]
  · rw [if_neg (show ¬ 68 + p = 74 + 6 - 1 by omega), if_neg (show ¬ (74 + w ≤ 68 + p ∧ 68 + p < 74 + 6 - 1) by omega), if_neg (show ¬ 68 + p = 68 + 6 - 1 by omega)]
    by_cases y : p < w
    · rw [if_pos y, if_neg (show ¬ (68 + w ≤ 68 + p ∧ 68 + p < 68 + 6 - 1) by omega), if_neg (show ¬ 68 + p = 62 + 6 - 1 by omega), if_neg (show ¬ (62 + w ≤ 68 + p ∧ 68 + p < 62 + 6 - 1) by omega)]
    · rw [if_neg y, if_pos (show 68 + w ≤ 68 + p ∧ 68 + p < 68 + 6 - 1 by omega), if_neg (show ¬ 68 + p + 1 = 62 + 6 - 1 by omega), if_neg (show ¬ (62 + w ≤ 68 + p + 1 ∧ 68 + p + 1 < 62 + 6 - 1) by omega)]
  · rw [if_neg (show ¬ 74 + p = 74 + 6 - 1 by omega)]
    by_cases y : p < w
    · rw [if_pos y, if_neg (show ¬ (74 + w ≤ 74 + p ∧ 74 + p < 74 + 6 - 1) by omega), if_neg (show ¬ 74 + p = 68 + 6 - 1 by omega), if_neg (show ¬ (68 + w ≤ 74 + p ∧ 74 + p < 68 + 6 - 1) by omega), if_neg (show ¬ 74 + p = 62 + 6 - 1 by omega), if_neg (show ¬ (62 + w ≤ 74 + p ∧ 74 + p < 62 + 6 - 1) by omega)]
    · rw [if_neg y, if_pos (show 74 + w ≤ 74 + p ∧ 74 + p < 74 + 6 - 1 by omega), if_neg (show ¬ 74 + p + 1 = 68 + 6 - 1 by omega), if_neg (show ¬ (68 + w ≤ 74 + p + 1 ∧ 74 + p + 1 < 68 + 6 - 1) by omega), if_neg (show ¬ 74 + p + 1 = 62 + 6 - 1 by omega), if_neg (show ¬ (62 + w ≤ 74 + p + 1 ∧ 74 + p + 1 < 62 + 6 - 1) by omega)]
theorem g_lv_is {z : Nat → Int32} {q : Nat} {s : Nat → Int32} (hq : q ≤ 6) (hs : ∀ k, k < q → s k = z (68 + k)) (h012 : ∀ k, k < q → (¬ s k < 2 ↔ s k = 2)) (h1 : z 1 = nI q) : ∀ u, u ≤ q →
    (∀ b, b = 62 ∨ b = 68 ∨ b = 74 → (∀ p, p < q - u → g_lv z q u (b + p) = z (b + p)) ∧ (∀ j, q - u ≤ j → j < q → s j < 2 → g_lv z q u (b + (q - u + (f_k s j - f_k s (q - u)))) = z (b + j))) ∧ g_lv z q u 1 = nI (q - u + (f_k s q - f_k s (q - u)))
  | 0, _ => by
    refine ⟨fun b hb => ⟨fun p hp => rfl, fun j h1 h2 => absurd h2 (by omega)⟩, ?_⟩
    rw [g_lv, h1, Nat.sub_zero, Nat.sub_self, Nat.add_zero]
  | u + 1, hu => by
    obtain ⟨ih1, ih2⟩ := g_lv_is hq hs h012 h1 u (by omega)
    have hw : q - u = (q - 1 - u) + 1 := by omega
    have hw2 : q - (u + 1) = q - 1 - u := by omega
    rw [hw] at ih1 ih2
    rw [hw2, g_lv]
    generalize hwe : q - 1 - u = w at ih1 ih2
    have hwq : w < q := by omega
    have h68 : g_lv z q u (68 + w) = s w := by rw [(ih1 68 (Or.inr (Or.inl rfl))).1 w (by omega), hs w hwq]
    have hkq := k_mono s (i := w + 1) (j := q) (by omega)
    by_cases y : s w < 2
    · have y2 : ¬ g_lv z q u (68 + w) = 2 := by
        rw [h68]
        exact fun e => (h012 w hwq).mpr e y
      have hk := k_s y
      have e : g_lv1 (g_lv z q u) w = g_lv z q u := by
        unfold g_lv1
        rw [if_neg y2]
      rw [e]
      refine ⟨fun b hb => ⟨fun p hp => (ih1 b hb).1 p (by omega), fun j hj hj2 hj3 => ?_⟩, ?_⟩
      · rcases Nat.lt_or_ge w j with x | x
        · have h9 := (ih1 b hb).2 j (by omega) hj2 hj3
          have hm := k_mono s (i := w + 1) (j := j) (by omega)
          rw [hk] at h9 hm
          rw [show w + (f_k s j - f_k s w) = w + 1 + (f_k s j - (f_k s w + 1)) by omega]
          exact h9
        · have e2 : j = w := by omega
          subst e2
          rw [Nat.sub_self, Nat.add_zero]
          exact (ih1 b hb).1 j (by omega)
      · rw [ih2]
        congr 1
        omega
    · have y2 : g_lv z q u (68 + w) = 2 := by
        rw [h68]
        exact (h012 w hwq).mp y
      have hk := k_n y
      refine ⟨fun b hb => ⟨fun p hp => ?_, fun j hj hj2 hj3 => ?_⟩, ?_⟩
      · rw [g_lv1_at (by omega) hb (by omega) y2, if_pos hp]
        exact (ih1 b hb).1 p (by omega)
      · have x : w < j := by
          rcases Nat.lt_or_ge w j with x | x
          · exact x
          · have e2 : j = w := by omega
            subst e2
            exact absurd hj3 y
        have h9 := (ih1 b hb).2 j (by omega) hj2 hj3
        have hm := k_mono s (i := w + 1) (j := j) (by omega)
        have hst := k_step s (w + 1) j (by omega)
        rw [hk] at h9 hm hst
        rw [g_lv1_at (by omega) hb (by omega) y2, if_neg (by omega), show b + (w + (f_k s j - f_k s w)) + 1 = b + (w + 1 + (f_k s j - f_k s w)) by omega]
        exact h9
      · unfold g_lv1
        rw [if_pos y2, x_upd_at, ih2, hk]
        exact pk_sub (b := 1) (by omega) |>.trans (by congr 1; omega)
theorem t_dis {B : Nat} {D : xd} {o n q : Nat} {Z : Nat → Int32} (e : r_E D o Z n q) (w9 : r_W D o n q q) (m9 : r_M D o n B) (bl : f_bal D o n) : r_T B (f_dis D o q) o (g_lv Z q q) n (f_k (D (o + 11)) q) := by
  obtain ⟨e1, e2, e3, e4, e5, e6, e7⟩ := e
  obtain ⟨w1, w2, w3, w4, w5⟩ := w9
  have h012 : ∀ k, k < q → (¬ D (o + 11) k < 2 ↔ D (o + 11) k = 2) := by
    intro k hk
    obtain ⟨-, ⟨s, s1, s2, -⟩, -⟩ := w4 k hk
    rw [s2, show (2 : Int32) = nI 2 from rfl, nI_ltI (by omega) (by omega), nI_eq (by omega) (by omega)]
    omega
  obtain ⟨l1, l2⟩ := g_lv_is w2 (fun k hk => (e6 k hk).2.1) h012 e4 q (Nat.le_refl q)
  rw [Nat.sub_self] at l1 l2
  have hk0 : f_k (D (o + 11)) 0 = 0 := rfl
  rw [hk0, Nat.sub_zero, Nat.zero_add] at l2
  have hle := f_k_le (D (o + 11)) q
  have r10 : f_dis D o q (o + 10) = f_cmp (D (o + 10)) (D (o + 11)) q := by
    unfold f_dis
    rw [x_p_ne (by omega), x_r_ne2 (by omega), x_r_ne2 (by omega), x_r_same]
  have r11 : f_dis D o q (o + 11) = f_cmp (D (o + 11)) (D (o + 11)) q := by
    unfold f_dis
    rw [x_p_ne (by omega), x_r_ne2 (by omega), x_r_same]
  have r12 : f_dis D o q (o + 12) = f_cmp (D (o + 12)) (D (o + 11)) q := by
    unfold f_dis
    rw [x_p_ne (by omega), x_r_same]
  have O : ∀ k, k < o + 9 ∨ o + 12 < k → f_dis D o q k = D k := fun k hk => f_dis_out hk
  have L : ∀ j, j < 62 ∨ 80 ≤ j → j ≠ 1 → g_lv Z q q j = Z j := fun j h1 h2 => g_lv_out h1 h2 q
  refine ⟨⟨?_, ?_, ?_, ?_, fun i hi => ?_, fun k hk => ?_, ?_⟩, ⟨w1, by omega, fun i hi => ?_, fun k hk => ?_, ?_⟩, ?_, ?_⟩
  · rw [O _ (by omega)]; exact e1
  · rw [L _ (by omega) (by omega)]; exact e2
  · unfold f_dis; rw [x_p_at]
  · exact l2
  · rw [O _ (by omega), O _ (by omega), O _ (by omega), O _ (by omega), O _ (by omega), O _ (by omega), O _ (by omega), L _ (by omega) (by omega), L _ (by omega) (by omega), L _ (by omega) (by omega), L _ (by omega) (by omega), L _ (by omega) (by omega), L _ (by omega) (by omega), L _ (by omega) (by omega)]
    exact e5 i hi
  · obtain ⟨j, j1, j2, j3⟩ := k_onto _ q k hk
    have a10 := (l1 62 (Or.inl rfl)).2 j (Nat.zero_le j) j1 j2
    have a11 := (l1 68 (Or.inr (Or.inl rfl))).2 j (Nat.zero_le j) j1 j2
    have a12 := (l1 74 (Or.inr (Or.inr rfl))).2 j (Nat.zero_le j) j1 j2
    rw [hk0, Nat.sub_zero, Nat.zero_add, j3] at a10 a11 a12
    rw [r10, r11, r12, a10, a11, a12, ← j3, c_cmp _ _ q j j1 j2, c_cmp _ _ q j j1 j2, c_cmp _ _ q j j1 j2]
    exact e6 j j1
  · rw [O _ (by omega), L _ (by omega) (by omega), L _ (by omega) (by omega), L _ (by omega) (by omega), L _ (by omega) (by omega)]
    exact e7
  · rw [O (o + 2) (by omega), O (o + 3) (by omega), O (o + 4) (by omega), O (o + 6) (by omega), O (o + 7) (by omega)]
    exact w3 i hi
  · obtain ⟨j, j1, j2, j3⟩ := k_onto _ q k hk
    rw [r10, r11, r12, ← j3, c_cmp _ _ q j j1 j2, c_cmp _ _ q j j1 j2, c_cmp _ _ q j j1 j2]
    obtain ⟨x1, ⟨s, s1, s2, -⟩, x3⟩ := w4 j j1
    refine ⟨x1, ?_, x3⟩
    rw [s2, show (2 : Int32) = nI 2 from rfl, nI_ltI (by omega) (by omega)] at j2
    rw [s2]
    have hs01 : s = 0 ∨ s = 1 := by omega
    rcases hs01 with rfl | rfl
    · exact Or.inl rfl
    · exact Or.inr rfl
  · rw [O _ (by omega)]; exact w5
  · exact m_cong m9 (fun _ _ => by rw [O _ (by omega)]) (by rw [O _ (by omega)]) (Nat.le_refl B)
  · exact b_cong bl (fun _ _ => by rw [O _ (by omega)]) (fun _ _ => by rw [O _ (by omega)]) (fun _ _ => by rw [O _ (by omega)]) (fun _ _ => by rw [O _ (by omega)])
/-! subsidies -/
theorem t_bi {D : xd} {o n s : Nat} {z : Nat → Int32} {b : Nat → Bool} (hw : ∀ j, j < n → D (o + 2) j = z (6 + j)) (hb : ∀ j, j < n → D 158 j = x_bi (b j = true)) : ∀ m, m ≤ n → f_bi D o (nI s) m = g_ls b (g_row z 6) s m
  | 0, _ => rfl
  | m + 1, hm => by
    rw [f_bi, g_ls, t_bi hw hb m (by omega), hw m (by omega), hb m (by omega)]
    congr 1
    refine decide_eq_decide.mpr (and_congr Iff.rfl ?_)
    cases b m with
    | true => exact ⟨fun _ => rfl, fun _ => by rw [x_bi_t rfl]; decide⟩
    | false => exact ⟨fun y => absurd (by rw [x_bi_f (by simp)]; decide) y, fun y => absurd y (by simp)⟩
theorem f_ps_13 {D : xd} {o n j : Nat} (h2 : j ≠ 2) (h9 : j ≠ 9) : ∀ i, f_ps D o n i (o + 13) j = D (o + 13) j
  | 0 => rfl
  | i + 1 => by
    rw [f_ps]
    split
    · exact f_ps_13 h2 h9 i
    · rw [x_p_row h9, x_p_row h2]
      exact f_ps_13 h2 h9 i
theorem f_ps_2 {D : xd} {o n : Nat} {x t0 : Int32} (hbit : ∀ s, s < 4 → (f_bi D o (nI s) n = true ↔ g_on x s)) (h0 : D (o + 13) 2 = t0) : ∀ i, i ≤ 4 → f_ps D o n i (o + 13) 2 = g_tr x t0 i ∧ f_ps D o n i (o + 13) 9 - D (o + 13) 9 = f_ps D o n i (o + 13) 2 - D (o + 13) 2 ∧ ∃ k, k ≤ 3 * i ∧ f_ps D o n i (o + 13) 2 = D (o + 13) 2 + nI k
  | 0, _ => ⟨h0, by rw [f_ps]; grind, 0, by omega, by rw [f_ps, nI_0, Int32.add_zero]⟩
  | i + 1, hi => by
    obtain ⟨h1, h2, k, h3, h4⟩ := f_ps_2 hbit h0 i (by omega)
    rw [f_ps, g_tr]
    by_cases y : f_bi D o (nI i) n = true
    · have y2 : (x >>> (nI i &&& 31)) &&& 1 = 1 := (hbit i (by omega)).mp y
      rw [if_pos y, if_pos y2, Int32.add_zero]
      exact ⟨h1, h2, k, by omega, h4⟩
    · have y2 : ¬ (x >>> (nI i &&& 31)) &&& 1 = 1 := fun q => y ((hbit i (by omega)).mpr q)
      rw [if_neg y, if_neg y2]
      refine ⟨?_, ?_, k + 3, by omega, ?_⟩
      · rw [x_p_row (by omega), x_p_at, h1]
      · rw [x_p_at, x_p_row (by omega), x_p_at]
        grind
      · rw [x_p_row (by omega), x_p_at, h4, ← nI_add]
        show _ = D (o + 13) 2 + (nI k + 3)
        grind
theorem t_night {B : Nat} {d : xd} {o n q : Nat} {z : Nat → Int32} (h : r_T B d o z n q) (ho : 1 ≤ o ∧ o + 14 ≤ 157) (hB : B < 100000) : (∃ q2, r_T (B + 12) (f_night d o n q) o (g_ngt z n q) n q2) ∧ f_cb d o n = g_cn (g_rdy z) n := by
  have hz2 : z 2 = d (o + 13) 3 := h.1.2.2.2.2.2.2.1.symm
  obtain ⟨h1, h2, h3, h4, h5, h6⟩ := t_brn h ho
  have hn := h.2.1.1
  have hq := h.2.1.2.1
  refine ⟨⟨f_k (f_ma (f_brn d o n) o q (o + 11)) q, ?_⟩, h6⟩
  obtain ⟨a1, a2, a3, a4, a5, a6⟩ := t_ma h1 h2 h3 h4 h5 ho.2 q (Nat.le_refl q)
  have hd := t_dis a1 a2 a3 a4
  have hni : g_lv (g_acts (g_n1 z (g_rdy z) n) (g_rdy z) q) q q = g_ni z n q := rfl
  rw [hni] at hd
  have hcr : ∀ k, k < q → g_n1 z (g_rdy z) n (62 + k) - 1 = -1 ∨ ∃ w, w < n ∧ g_n1 z (g_rdy z) n (62 + k) - 1 = nI w := fun k hk => by
    rw [← (h1.2.2.2.2.2.1 k hk).1]
    exact (h2.2.2.2.1 k hk).1
  have hlo : ∀ j, j < 38 → j ≠ 1 → g_ni z n q j = z j := fun j h1 h2 => by
    unfold g_ni
    rw [g_lv_out (by omega) h2, g_acts_out (by omega) (by omega) hn hq hcr q (Nat.le_refl q), g_n1_out (by omega) (by omega)]
  generalize hX : f_dis (f_ma (f_brn d o n) o q) o q = X at hd
  have hX158 : ∀ j, j < n → X 158 j = x_bi (g_rdy z j = true) := fun j hj => by
    rw [← hX, f_dis_out (by omega), a5]
    exact h5 j hj
  obtain ⟨e, v, m9, bl⟩ := hd
  have hstr : ∀ j, j < n → X (o + 2) j = z (6 + j) := fun j hj => by
    rw [(e.2.2.2.2.1 j hj).1, hlo _ (by omega) (by omega)]
  have hbit : ∀ s, s < 4 → (f_bi X o (nI s) n = true ↔ g_on (g_lt (g_rdy z) (g_row z 6) n) s) := fun s hs => by
    rw [t_bi hstr hX158 n (Nat.le_refl n)]
    refine (g_lt_on (g_rdy z) (g_row z 6) hn (fun j hj => ?_) hs).symm
    obtain ⟨⟨a, x1, x2⟩, -⟩ := v.2.2.1 j hj
    exact ⟨a, x1, (hstr j hj).symm.trans x2⟩
  have h05 : X (o + 13) 2 = z 5 := by
    have x := e.2.2.2.2.2.2.2.2.2
    rw [hlo 5 (by omega) (by omega)] at x
    exact x
  obtain ⟨p1, p2, k, p3, p4⟩ := f_ps_2 hbit h05 4 (Nat.le_refl 4)
  have N3 : f_n3 d o n q = f_ps X o n 4 := by unfold f_n3; rw [hX]
  have O : ∀ k, k ≠ o + 13 → f_night d o n q k = X k := fun k hk => by
    unfold f_night
    rw [x_p_ne hk, N3, f_ps_out hk]
  have P13 : ∀ j, j ≠ 3 → f_night d o n q (o + 13) j = f_ps X o n 4 (o + 13) j := fun j hj => by
    unfold f_night
    rw [x_p_row hj, N3]
  have P3 : f_night d o n q (o + 13) 3 = X (o + 13) 3 + 1 := by
    unfold f_night
    rw [x_p_at, N3, f_ps_13 (by omega) (by omega)]
  have Z : ∀ j, j ≠ 5 → j ≠ 2 → g_ngt z n q j = g_ni z n q j := fun j h5 h2 => by
    unfold g_ngt
    rw [x_upd_ne h2, x_upd_ne h5]
  obtain ⟨e1, e2, e3, e4, e5, e6, e70, e71, e72, e73⟩ := e
  obtain ⟨v1, v2, v3, v4, v5⟩ := v
  refine ⟨⟨?_, ?_, ?_, ?_, fun i hi => ?_, fun k hk => ?_, ?_⟩, ⟨v1, v2, fun i hi => ?_, fun k hk => ?_, ?_⟩, ?_, ?_⟩
  · rw [O _ (by omega)]; exact e1
  · rw [Z _ (by omega) (by omega)]; exact e2
  · rw [O _ (by omega)]; exact e3
  · rw [Z _ (by omega) (by omega)]; exact e4
  · rw [O _ (by omega), O _ (by omega), O _ (by omega), O _ (by omega), O _ (by omega), O _ (by omega), O _ (by omega), Z _ (by omega) (by omega), Z _ (by omega) (by omega), Z _ (by omega) (by omega), Z _ (by omega) (by omega), Z _ (by omega) (by omega), Z _ (by omega) (by omega), Z _ (by omega) (by omega)]
    exact e5 i hi
  · rw [O _ (by omega), O _ (by omega), O _ (by omega), Z _ (by omega) (by omega), Z _ (by omega) (by omega), Z _ (by omega) (by omega)]
    exact e6 k hk
  · rw [P3, P13 0 (by omega), P13 1 (by omega), P13 2 (by omega), f_ps_13 (by omega) (by omega), f_ps_13 (by omega) (by omega), p1, Z 3 (by omega) (by omega), Z 4 (by omega) (by omega)]
    refine ⟨?_, e71, e72, ?_⟩
    · unfold g_ngt
      rw [x_upd_at, e70, hlo 2 (by omega) (by omega)]
    · unfold g_ngt
      rw [x_upd_ne (by omega), x_upd_at]
  · rw [O (o + 2) (by omega), O (o + 3) (by omega), O (o + 4) (by omega), O (o + 6) (by omega), O (o + 7) (by omega)]
    exact v3 i hi
  · rw [O (o + 10) (by omega), O (o + 11) (by omega), O (o + 12) (by omega)]
    exact v4 k hk
  · rw [P13 1 (by omega), f_ps_13 (by omega) (by omega)]; exact v5
  · obtain ⟨b, t, x1, x2, x3⟩ := m9
    refine ⟨b, t + k, fun i hi => by rw [O _ (by omega)]; exact x1 i hi, ?_, by omega⟩
    rw [P13 2 (by omega), p4, x2, nI_add]
  · obtain ⟨b1, b2, b3⟩ := bl
    unfold f_bal
    rw [O (o + 6) (by omega), O (o + 7) (by omega), O (o + 8) (by omega), P13 0 (by omega), P13 1 (by omega), P13 2 (by omega), P13 4 (by omega), P13 5 (by omega), P13 6 (by omega), P13 7 (by omega), P13 8 (by omega), P13 9 (by omega),
      f_ps_13 (j := 0) (by omega) (by omega), f_ps_13 (j := 1) (by omega) (by omega), f_ps_13 (j := 4) (by omega) (by omega), f_ps_13 (j := 5) (by omega) (by omega), f_ps_13 (j := 6) (by omega) (by omega), f_ps_13 (j := 7) (by omega) (by omega), f_ps_13 (j := 8) (by omega) (by omega)]
    refine ⟨b1, b2, ?_⟩
    grind
