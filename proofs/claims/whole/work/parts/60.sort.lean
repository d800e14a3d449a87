-- STAND-INS
theorem n : True := trivial
theorem i : True := trivial
theorem k : True := trivial
theorem q : True := trivial
theorem u : True := trivial
theorem v : True := trivial
theorem w : True := trivial
theorem j : True := trivial
theorem o : True := trivial
theorem a : True := trivial
theorem b : True := trivial
theorem y : True := trivial
theorem z : True := trivial
theorem r : True := trivial
theorem t : True := trivial
theorem f : True := trivial
theorem g : True := trivial
theorem o2 : True := trivial
theorem a2 : True := trivial
theorem hlt : True := trivial
theorem hltk : True := trivial
theorem hlt3 : True := trivial
theorem hlt4 : True := trivial
theorem hn : True := trivial
theorem hq : True := trivial
theorem hm : True := trivial
theorem hi : True := trivial
theorem hi2 : True := trivial
theorem hi3 : True := trivial
theorem hk : True := trivial
theorem hj : True := trivial
theorem hb : True := trivial
theorem hs : True := trivial
theorem hw : True := trivial
theorem hx : True := trivial
theorem hz : True := trivial
theorem hv : True := trivial
theorem hr : True := trivial
theorem hc : True := trivial
theorem hu : True := trivial
theorem hp : True := trivial
theorem hl : True := trivial
theorem hh : True := trivial
theorem e : True := trivial
theorem e9 : True := trivial
theorem sh : True := trivial
theorem a0 : True := trivial
theorem c9 : True := trivial
theorem k9 : True := trivial
theorem m9 : True := trivial
theorem mm : True := trivial
theorem ha : True := trivial
theorem ho : True := trivial
theorem hS : True := trivial
theorem ha0 : True := trivial
theorem hs9 : True := trivial
theorem hk0 : True := trivial
theorem hk1 : True := trivial
theorem hk9 : True := trivial
theorem hap : True := trivial
theorem hoo : True := trivial
theorem qh : True := trivial
theorem ex : True := trivial
theorem ih : True := trivial
theorem ihk : True := trivial
theorem ih1 : True := trivial
theorem ih2 : True := trivial
theorem ih3 : True := trivial
theorem ih4 : True := trivial
theorem ihj : True := trivial
theorem st : True := trivial
theorem lst : True := trivial
theorem args0 : True := trivial
theorem hcn : True := trivial
theorem hcir : True := trivial
theorem q8 : True := trivial
theorem z8 : True := trivial
theorem h0 : True := trivial
theorem h1 : True := trivial
theorem h2 : True := trivial
theorem h3 : True := trivial
theorem h4 : True := trivial
theorem h5 : True := trivial
theorem h7 : True := trivial
theorem h10 : True := trivial
theorem h11 : True := trivial
theorem h12 : True := trivial
theorem h13 : True := trivial
theorem h14 : True := trivial
theorem h15 : True := trivial
theorem h16 : True := trivial
theorem h17 : True := trivial
theorem h18 : True := trivial
theorem h19 : True := trivial
theorem h20 : True := trivial
theorem h21 : True := trivial
theorem h22 : True := trivial
theorem h23 : True := trivial
theorem h24 : True := trivial
theorem h25 : True := trivial
theorem h26 : True := trivial
theorem h27 : True := trivial
theorem h28 : True := trivial
theorem h29 : True := trivial
theorem h30 : True := trivial
theorem h31 : True := trivial
theorem h32 : True := trivial
theorem h33 : True := trivial
theorem h34 : True := trivial
theorem h35 : True := trivial
theorem h36 : True := trivial
theorem h37 : True := trivial
theorem h38 : True := trivial
theorem h39 : True := trivial
theorem h40 : True := trivial
theorem h41 : True := trivial
theorem h42 : True := trivial
theorem h43 : True := trivial
theorem h44 : True := trivial
theorem h45 : True := trivial
theorem h46 : True := trivial
theorem h47 : True := trivial
theorem h48 : True := trivial
theorem h49 : True := trivial
theorem h50 : True := trivial
theorem h51 : True := trivial
theorem h52 : True := trivial
theorem h53 : True := trivial
theorem h54 : True := trivial
theorem h55 : True := trivial
theorem h56 : True := trivial
theorem h57 : True := trivial
theorem h58 : True := trivial
theorem h59 : True := trivial
theorem h60 : True := trivial
theorem h61 : True := trivial
theorem h62 : True := trivial
theorem h63 : True := trivial
theorem h64 : True := trivial
theorem h65 : True := trivial
theorem h66 : True := trivial
theorem h67 : True := trivial
theorem h68 : True := trivial
theorem h69 : True := trivial
theorem h70 : True := trivial
theorem h71 : True := trivial
theorem h72 : True := trivial
theorem h73 : True := trivial
theorem h74 : True := trivial
theorem h75 : True := trivial
theorem h76 : True := trivial
theorem h77 : True := trivial
theorem h78 : True := trivial
theorem h79 : True := trivial
theorem h80 : True := trivial
theorem h81 : True := trivial
theorem h82 : True := trivial
theorem h83 : True := trivial
theorem h84 : True := trivial
theorem h85 : True := trivial
theorem h86 : True := trivial
theorem h87 : True := trivial
theorem h88 : True := trivial
theorem h89 : True := trivial
theorem h90 : True := trivial
theorem h91 : True := trivial
theorem h92 : True := trivial
theorem h93 : True := trivial
theorem h94 : True := trivial
theorem h95 : True := trivial
theorem h96 : True := trivial
theorem h97 : True := trivial
theorem h98 : True := trivial
theorem h99 : True := trivial
theorem h100 : True := trivial
theorem h101 : True := trivial
theorem h102 : True := trivial
theorem h103 : True := trivial
theorem h104 : True := trivial
theorem h105 : True := trivial
theorem h106 : True := trivial
theorem h107 : True := trivial
theorem h108 : True := trivial
theorem h109 : True := trivial
theorem h110 : True := trivial
theorem h111 : True := trivial
theorem h112 : True := trivial
theorem h113 : True := trivial
theorem h114 : True := trivial
theorem h115 : True := trivial
theorem h116 : True := trivial
theorem h117 : True := trivial
theorem h118 : True := trivial
theorem h119 : True := trivial
theorem h120 : True := trivial
theorem h121 : True := trivial
theorem h122 : True := trivial
theorem h123 : True := trivial
theorem h124 : True := trivial
theorem h125 : True := trivial
theorem h126 : True := trivial
theorem h127 : True := trivial
theorem h128 : True := trivial
theorem h129 : True := trivial
theorem h130 : True := trivial
theorem h131 : True := trivial
theorem h132 : True := trivial
theorem h133 : True := trivial
theorem h134 : True := trivial
theorem h135 : True := trivial
theorem h136 : True := trivial
theorem h137 : True := trivial
theorem h138 : True := trivial
theorem h139 : True := trivial
theorem h140 : True := trivial
theorem h141 : True := trivial
theorem h142 : True := trivial
theorem h143 : True := trivial
theorem h144 : True := trivial
theorem h145 : True := trivial
theorem h146 : True := trivial
theorem h147 : True := trivial
theorem h148 : True := trivial
theorem h149 : True := trivial
theorem h150 : True := trivial
theorem h151 : True := trivial
theorem h152 : True := trivial
theorem h153 : True := trivial
theorem h154 : True := trivial
theorem h155 : True := trivial
theorem h156 : True := trivial
theorem h157 : True := trivial
theorem h158 : True := trivial
theorem h159 : True := trivial
theorem h160 : True := trivial
theorem h161 : True := trivial
theorem h162 : True := trivial
theorem h163 : True := trivial
theorem h164 : True := trivial
theorem h165 : True := trivial
theorem h166 : True := trivial
theorem h167 : True := trivial
theorem h168 : True := trivial
theorem h169 : True := trivial
theorem h170 : True := trivial
theorem h171 : True := trivial
theorem h172 : True := trivial
theorem h173 : True := trivial
theorem h174 : True := trivial
theorem h175 : True := trivial
theorem h176 : True := trivial
theorem h177 : True := trivial
theorem h178 : True := trivial
theorem h179 : True := trivial
theorem h180 : True := trivial
theorem h181 : True := trivial
theorem h182 : True := trivial
theorem h183 : True := trivial
theorem h184 : True := trivial
theorem h185 : True := trivial
theorem h186 : True := trivial
theorem h187 : True := trivial
theorem h188 : True := trivial
theorem h189 : True := trivial
theorem h190 : True := trivial
theorem h191 : True := trivial
theorem h192 : True := trivial
theorem h193 : True := trivial
theorem h194 : True := trivial
theorem h195 : True := trivial
theorem h196 : True := trivial
theorem h197 : True := trivial
theorem h198 : True := trivial
theorem h199 : True := trivial
theorem L0 : True := trivial
theorem L1 : True := trivial
theorem L2 : True := trivial
theorem L3 : True := trivial
theorem L4 : True := trivial
theorem L5 : True := trivial
theorem L6 : True := trivial
theorem L7 : True := trivial
theorem L8 : True := trivial
theorem L9 : True := trivial
theorem L10 : True := trivial
theorem L11 : True := trivial
theorem L12 : True := trivial
theorem L13 : True := trivial
theorem L14 : True := trivial
theorem L15 : True := trivial
theorem L16 : True := trivial
theorem L17 : True := trivial
theorem L18 : True := trivial
theorem L19 : True := trivial
theorem L20 : True := trivial
theorem L21 : True := trivial
theorem L22 : True := trivial
theorem L23 : True := trivial
theorem L24 : True := trivial
theorem L25 : True := trivial
theorem L26 : True := trivial
theorem L27 : True := trivial
theorem L28 : True := trivial
theorem L29 : True := trivial
theorem L30 : True := trivial
theorem L31 : True := trivial
theorem L32 : True := trivial
theorem L33 : True := trivial
theorem L34 : True := trivial
theorem L35 : True := trivial
theorem L36 : True := trivial
theorem L37 : True := trivial
theorem L38 : True := trivial
theorem L39 : True := trivial
theorem L40 : True := trivial
theorem L41 : True := trivial
theorem L42 : True := trivial
theorem L43 : True := trivial
theorem L44 : True := trivial
theorem L45 : True := trivial
theorem L46 : True := trivial
theorem L47 : True := trivial
theorem L48 : True := trivial
theorem L49 : True := trivial
theorem L50 : True := trivial
theorem L51 : True := trivial
theorem L52 : True := trivial
theorem L53 : True := trivial
theorem L54 : True := trivial
theorem L55 : True := trivial
theorem L56 : True := trivial
theorem L57 : True := trivial
theorem L58 : True := trivial
theorem L59 : True := trivial
theorem L60 : True := trivial
theorem L61 : True := trivial
theorem L62 : True := trivial
theorem L63 : True := trivial
theorem L64 : True := trivial
theorem L65 : True := trivial
theorem L66 : True := trivial
theorem L67 : True := trivial
theorem L68 : True := trivial
theorem L69 : True := trivial
theorem L70 : True := trivial
theorem L71 : True := trivial
theorem L72 : True := trivial
theorem L73 : True := trivial
theorem L74 : True := trivial
theorem L75 : True := trivial
theorem L76 : True := trivial
theorem L77 : True := trivial
theorem L78 : True := trivial
theorem L79 : True := trivial
theorem L80 : True := trivial
theorem L81 : True := trivial
theorem L82 : True := trivial
theorem L83 : True := trivial
theorem L84 : True := trivial
theorem L85 : True := trivial
theorem L86 : True := trivial
theorem L87 : True := trivial
theorem L88 : True := trivial
theorem L89 : True := trivial
theorem L90 : True := trivial
theorem L91 : True := trivial
theorem L92 : True := trivial
theorem L93 : True := trivial
theorem L94 : True := trivial
theorem L95 : True := trivial
theorem L96 : True := trivial
theorem L97 : True := trivial
theorem L98 : True := trivial
theorem L99 : True := trivial
theorem L100 : True := trivial
theorem L101 : True := trivial
theorem L102 : True := trivial
theorem L103 : True := trivial
theorem L104 : True := trivial
theorem L105 : True := trivial
theorem L106 : True := trivial
theorem L107 : True := trivial
theorem L108 : True := trivial
theorem L109 : True := trivial
theorem L110 : True := trivial
theorem L111 : True := trivial
theorem L112 : True := trivial
theorem L113 : True := trivial
theorem L114 : True := trivial
theorem L115 : True := trivial
theorem L116 : True := trivial
theorem L117 : True := trivial
theorem L118 : True := trivial
theorem L119 : True := trivial
theorem L120 : True := trivial
theorem L121 : True := trivial
theorem L122 : True := trivial
theorem L123 : True := trivial
theorem L124 : True := trivial
theorem L125 : True := trivial
theorem L126 : True := trivial
theorem L127 : True := trivial
theorem L128 : True := trivial
theorem L129 : True := trivial
theorem L130 : True := trivial
theorem L131 : True := trivial
theorem L132 : True := trivial
theorem L133 : True := trivial
theorem L134 : True := trivial
theorem L135 : True := trivial
theorem L136 : True := trivial
theorem L137 : True := trivial
theorem L138 : True := trivial
theorem L139 : True := trivial
theorem L140 : True := trivial
theorem L141 : True := trivial
theorem L142 : True := trivial
theorem L143 : True := trivial
theorem L144 : True := trivial
theorem L145 : True := trivial
theorem L146 : True := trivial
theorem L147 : True := trivial
theorem L148 : True := trivial
theorem L149 : True := trivial
theorem L150 : True := trivial
theorem L151 : True := trivial
theorem L152 : True := trivial
theorem L153 : True := trivial
theorem L154 : True := trivial
theorem L155 : True := trivial
theorem L156 : True := trivial
theorem L157 : True := trivial
theorem L158 : True := trivial
theorem L159 : True := trivial
theorem L160 : True := trivial
theorem L161 : True := trivial
theorem L162 : True := trivial
theorem L163 : True := trivial
theorem L164 : True := trivial
theorem L165 : True := trivial
theorem L166 : True := trivial
theorem L167 : True := trivial
theorem L168 : True := trivial
theorem L169 : True := trivial
theorem L170 : True := trivial
theorem L171 : True := trivial
theorem L172 : True := trivial
theorem L173 : True := trivial
theorem L174 : True := trivial
theorem L175 : True := trivial
theorem L176 : True := trivial
theorem L177 : True := trivial
theorem L178 : True := trivial
theorem L179 : True := trivial
theorem L180 : True := trivial
theorem L181 : True := trivial
theorem L182 : True := trivial
theorem L183 : True := trivial
theorem L184 : True := trivial
theorem L185 : True := trivial
theorem L186 : True := trivial
theorem L187 : True := trivial
theorem L188 : True := trivial
theorem L189 : True := trivial
theorem L190 : True := trivial
theorem L191 : True := trivial
theorem L192 : True := trivial
theorem L193 : True := trivial
theorem L194 : True := trivial
theorem L195 : True := trivial
theorem L196 : True := trivial
theorem L197 : True := trivial
theorem L198 : True := trivial
theorem L199 : True := trivial
-- STAND-INS
/-! how many stand ahead: sorting, rounds and counting come to one -/
theorem s_ah_mono {r : Nat → Nat} {a b : Nat} (h : r b < r a ∨ (r a = r b ∧ a < b)) : ∀ k, g_ah r a k ≤ g_ah r b k
  | 0 => Nat.le_refl _
  | k + 1 => by
    have ih := s_ah_mono h k
    rw [g_ah, g_ah]
    by_cases h1 : r a < r k ∨ (r k = r a ∧ k < a)
    · have h2 : r b < r k ∨ (r k = r b ∧ k < b) := by omega
      rw [if_pos h1, if_pos h2]
      omega
    · rw [if_neg h1]
      split <;> omega
theorem s_ah_lt {r : Nat → Nat} {a b : Nat} (h : r b < r a ∨ (r a = r b ∧ a < b)) : ∀ k, a < k → g_ah r a k < g_ah r b k
  | 0, hk => absurd hk (Nat.not_lt_zero a)
  | k + 1, hk => by
    rw [g_ah, g_ah]
    rcases Nat.lt_or_ge a k with z | z
    · have ih := s_ah_lt h k z
      by_cases h1 : r a < r k ∨ (r k = r a ∧ k < a)
      · have h2 : r b < r k ∨ (r k = r b ∧ k < b) := by omega
        rw [if_pos h1, if_pos h2]
        omega
      · rw [if_neg h1]
        split <;> omega
    · have e : a = k := by omega
      subst e
      have ih := s_ah_mono h a
      have h1 : ¬ (r a < r a ∨ (r a = r a ∧ a < a)) := by omega
      rw [if_neg h1, if_pos h]
      omega
theorem s_ah_self {r : Nat → Nat} {i : Nat} : ∀ k, i < k → g_ah r i k < k
  | 0, hk => absurd hk (Nat.not_lt_zero i)
  | k + 1, hk => by
    rw [g_ah]
    rcases Nat.lt_or_ge i k with z | z
    · have ih := s_ah_self (r := r) k z
      split <;> omega
    · have e : i = k := by omega
      subst e
      have h1 : ¬ (r i < r i ∨ (r i = r i ∧ i < i)) := by omega
      have h2 := g_ah_le r i i
      rw [if_neg h1]
      omega
theorem s_inj {r : Nat → Nat} {n a b : Nat} (ha : a < n) (hb : b < n) (h : g_ah r a n = g_ah r b n) : a = b := by
  by_cases e : a = b
  · exact e
  · have q : (r b < r a ∨ (r a = r b ∧ a < b)) ∨ (r a < r b ∨ (r b = r a ∧ b < a)) := by omega
    rcases q with q | q
    · have := s_ah_lt q n ha
      omega
    · have := s_ah_lt q n hb
      omega
theorem s_pos (r : Nat → Int32) (o : Nat → Nat) (i : Nat) : ∀ t, (f_pos r o i t < t → r (o (f_pos r o i t)) < r i) ∧ (0 < f_pos r o i t → ¬ r (o (f_pos r o i t - 1)) < r i)
  | 0 => ⟨fun h => absurd h (Nat.not_lt_zero _), fun h => absurd h (Nat.not_lt_zero _)⟩
  | t + 1 => by
    have ih := s_pos r o i t
    rw [f_pos]
    by_cases h : r (o t) < r i
    · rw [if_pos h]
      refine ⟨fun _ => ?_, ih.2⟩
      rcases Nat.lt_or_ge (f_pos r o i t) t with z | z
      · exact ih.1 z
      · have e : f_pos r o i t = t := Nat.le_antisymm (f_pos_le r o i t) z
        rw [e]
        exact h
    · rw [if_neg h]
      exact ⟨fun z => absurd z (Nat.lt_irrefl _), fun _ => by rw [Nat.add_sub_cancel]; exact h⟩
theorem s_lt {a b : Nat} (ha : a < 100000) (hb : b < 100000) : nI a < nI b ↔ a < b := nI_ltI (by omega) (by omega)
theorem s_ord {R : Nat → Int32} {r : Nat → Nat} {n : Nat} (hR : ∀ j, j < n → R j = nI (r j)) (hr : ∀ j, j < n → r j < 100000) : ∀ i, i ≤ n → ∀ j, j < i → g_ah r (f_ord R i j) i = j
  | 0, _, j, hj => absurd hj (Nat.not_lt_zero j)
  | i + 1, hi, j, hj => by
    have ih := s_ord hR hr i (by omega)
    have hlt := f_ord_lt R i
    have hp := f_pos_le R (f_ord R i) i i
    obtain ⟨p1, p2⟩ := s_pos R (f_ord R i) i i
    generalize hpe : f_pos R (f_ord R i) i i = p at hp p1 p2
    have hRi := hR i (by omega)
    have hri := hr i (by omega)
    have hA : g_ah r i i = p := by
      refine Nat.le_antisymm ?_ ?_
      · rcases Nat.lt_or_ge p i with z | z
        · have h1 := p1 z
          have hb := hlt p z
          rw [hRi, hR _ (by omega), s_lt (hr _ (by omega)) hri] at h1
          have h2 := s_ah_mono (r := r) (a := i) (b := f_ord R i p) (Or.inl h1) i
          rw [ih p z] at h2
          exact h2
        · exact Nat.le_trans (g_ah_le r i i) z
      · rcases Nat.eq_zero_or_pos p with z | z
        · omega
        · have h1 := p2 z
          have hb := hlt (p - 1) (by omega)
          rw [hRi, hR _ (by omega), s_lt (hr _ (by omega)) hri] at h1
          have h2 := s_ah_lt (r := r) (a := f_ord R i (p - 1)) (b := i) (by omega) i hb
          rw [ih (p - 1) (by omega)] at h2
          omega
    have hs : ∀ a, a < i → g_ah r a (i + 1) = g_ah r a i + (if r a < r i then 1 else 0) := fun a ha => by
      rw [g_ah]
      by_cases h : r a < r i
      · rw [if_pos (Or.inl h), if_pos h]
      · rw [if_neg (by omega), if_neg h, Nat.add_zero]
    have hq : f_ord R (i + 1) j = if j < p then f_ord R i j else if j = p then i else f_ord R i (j - 1) := by
      rw [f_ord, hpe]
    rw [hq]
    rcases Nat.lt_trichotomy j p with z | z | z
    · rw [if_pos z, hs _ (hlt j (by omega)), ih j (by omega)]
      by_cases h : r (f_ord R i j) < r i
      · have h2 := s_ah_mono (r := r) (a := i) (b := f_ord R i j) (Or.inl h) i
        rw [ih j (by omega), hA] at h2
        omega
      · rw [if_neg h, Nat.add_zero]
    · rw [if_neg (by omega), if_pos z, g_ah, if_neg (by omega), hA, z]
    · rw [if_neg (by omega), if_neg (by omega), hs _ (hlt (j - 1) (by omega)), ih (j - 1) (by omega)]
      by_cases h : r (f_ord R i (j - 1)) < r i
      · rw [if_pos h]
        omega
      · have hb := hlt (j - 1) (by omega)
        have h2 := s_ah_lt (r := r) (a := f_ord R i (j - 1)) (b := i) (by omega) i hb
        rw [ih (j - 1) (by omega), hA] at h2
        omega
/-- each rank has its lamp -/
theorem s_rank {r : Nat → Nat} {n x : Nat} (hr : ∀ j, j < n → r j < 100000) (hx : x < n) : ∃ k, k < n ∧ g_ah r k n = x ∧ ∀ j, j < k → ¬ g_ah r j n = x := by
  have h1 := s_ord (R := fun j => nI (r j)) (r := r) (n := n) (fun _ _ => rfl) hr n (Nat.le_refl n) x hx
  have h2 := f_ord_lt (fun j => nI (r j)) n x hx
  exact ⟨_, h2, h1, fun j hj z => absurd (s_inj (by omega) h2 (z.trans h1.symm)) (by omega)⟩
theorem s_inc {p : Nat → Int32} {ord : Nat → Nat} {r : Nat → Nat} {n : Nat} (ho : ∀ j, j < n → ord j < n ∧ g_ah r (ord j) n = j) {i : Nat} (hi : i < n) : ∀ t, t ≤ n → f_inc p ord t i = if g_ah r i n < t then p i + 1 else p i
  | 0, _ => rfl
  | t + 1, ht => by
    have ih := s_inc (p := p) ho hi t (by omega)
    obtain ⟨h1, h2⟩ := ho t (by omega)
    rw [f_inc]
    by_cases e : i = ord t
    · rw [e] at ih ⊢
      rw [h2] at ih ⊢
      rw [if_neg (Nat.lt_irrefl t)] at ih
      rw [if_pos (Nat.lt_succ_self t)]
      simp only [upd, if_true]
      rw [ih]
    · have e2 : ¬ g_ah r i n = t := fun z => e (s_inj hi h1 (z.trans h2.symm))
      simp only [upd, if_neg e]
      rw [ih]
      by_cases z : g_ah r i n < t
      · rw [if_pos z, if_pos (by omega)]
      · rw [if_neg z, if_neg (by omega)]
theorem s_bst (f : Nat → Int32) : ∀ m, (∀ j, j ≤ m → f j ≤ f (f_bst f m)) ∧ (∀ j, j < f_bst f m → f j < f (f_bst f m))
  | 0 => ⟨fun j hj => by have e : j = 0 := by omega
                         subst e; exact Int32.le_refl _, fun j hj => absurd hj (Nat.not_lt_zero j)⟩
  | m + 1 => by
    obtain ⟨h1, h2⟩ := s_bst f m
    rw [f_bst]
    by_cases h : f (f_bst f m) < f (m + 1)
    · rw [if_pos h]
      refine ⟨fun j hj => ?_, fun j hj => ?_⟩
      · rcases Nat.lt_or_ge j (m + 1) with z | z
        · exact Int32.le_trans (h1 j (by omega)) (Int32.le_of_lt h)
        · have e : j = m + 1 := by omega
          subst e; exact Int32.le_refl _
      · exact Int32.lt_of_le_of_lt (h1 j (by omega)) h
    · rw [if_neg h]
      refine ⟨fun j hj => ?_, h2⟩
      rcases Nat.lt_or_ge j (m + 1) with z | z
      · exact h1 j (by omega)
      · have e : j = m + 1 := by omega
        subst e
        exact Int32.not_lt.mp h
theorem s_bst_is {f : Nat → Int32} {m k : Nat} (hk : k ≤ m) (h1 : ∀ j, j ≤ m → f j ≤ f k) (h2 : ∀ j, j < k → f j < f k) : f_bst f m = k := by
  obtain ⟨b1, b2⟩ := s_bst f m
  rcases Nat.lt_trichotomy (f_bst f m) k with z | z | z
  · exact absurd (h2 _ z) (Int32.not_lt.mpr (b1 k hk))
  · exact z
  · exact absurd (b2 _ z) (Int32.not_lt.mpr (h1 _ (f_bst_le f m)))
theorem s_m1 {a : Nat} (ha : a < 100000) : (-1 : Int32) < nI a := by
  rw [Int32.lt_iff_toInt_lt, nI_toInt (by omega)]
  have e : (-1 : Int32).toInt = -1 := by decide
  rw [e]
  omega
theorem s_rr {R : Nat → Int32} {r : Nat → Nat} {m : Nat} (hR : ∀ j, j < m + 1 → R j = nI (r j)) (hr : ∀ j, j < m + 1 → r j < 100000) : ∀ t, t ≤ m + 1 →
    (∀ j, j < m + 1 → f_rr R m t j = if g_ah r j (m + 1) < t then -1 else nI (r j)) ∧ (t < m + 1 → f_bst (f_rr R m t) m < m + 1 ∧ g_ah r (f_bst (f_rr R m t) m) (m + 1) = t) := by
  have step : ∀ t, t < m + 1 → (∀ j, j < m + 1 → f_rr R m t j = if g_ah r j (m + 1) < t then -1 else nI (r j)) → f_bst (f_rr R m t) m < m + 1 ∧ g_ah r (f_bst (f_rr R m t) m) (m + 1) = t := by
    intro t ht h
    have k1 := s_ord hR hr (m + 1) (Nat.le_refl _) t ht
    have k2 := f_ord_lt R (m + 1) t ht
    generalize f_ord R (m + 1) t = k at k1 k2
    have hk : f_rr R m t k = nI (r k) := by rw [h k k2, if_neg (by omega)]
    have key : ∀ j, j < m + 1 → j ≠ k → f_rr R m t j ≤ f_rr R m t k ∧ (j < k → f_rr R m t j < f_rr R m t k) := by
      intro j hj hjk
      rw [hk, h j hj]
      by_cases z : g_ah r j (m + 1) < t
      · rw [if_pos z]
        exact ⟨Int32.le_of_lt (s_m1 (hr k k2)), fun _ => s_m1 (hr k k2)⟩
      · rw [if_neg z]
        have q : ¬ (r k < r j ∨ (r j = r k ∧ j < k)) := fun y => by
          have := s_ah_lt y (m + 1) hj
          omega
        refine ⟨nI_le (by omega) (by have := hr k k2; omega), fun y => nI_lt (by omega) (by have := hr k k2; omega)⟩
    have e : f_bst (f_rr R m t) m = k := s_bst_is (by omega) (fun j hj => by
      by_cases e : j = k
      · rw [e]; exact Int32.le_refl _
      · exact (key j (by omega) e).1) (fun j hj => (key j (by omega) (by omega)).2 hj)
    rw [e]
    exact ⟨k2, k1⟩
  intro t
  induction t with
  | zero =>
    intro _
    have h : ∀ j, j < m + 1 → f_rr R m 0 j = if g_ah r j (m + 1) < 0 then -1 else nI (r j) := fun j hj => by
      rw [if_neg (Nat.not_lt_zero _)]
      exact hR j hj
    exact ⟨h, fun ht => step 0 ht h⟩
  | succ t ih =>
    intro ht
    obtain ⟨h0, h1⟩ := ih (by omega)
    obtain ⟨b1, b2⟩ := h1 (by omega)
    have h : ∀ j, j < m + 1 → f_rr R m (t + 1) j = if g_ah r j (m + 1) < t + 1 then -1 else nI (r j) := fun j hj => by
      rw [f_rr]
      by_cases e : j = f_bst (f_rr R m t) m
      · rw [e, b2, if_pos (Nat.lt_succ_self t)]
        simp [upd]
      · have e2 : ¬ g_ah r j (m + 1) = t := fun z => e (s_inj hj b1 (z.trans b2.symm))
        simp only [upd, if_neg e]
        rw [h0 j hj]
        by_cases z : g_ah r j (m + 1) < t
        · rw [if_pos z, if_pos (by omega)]
        · rw [if_neg z, if_neg (by omega)]
    exact ⟨h, fun ht2 => step (t + 1) ht2 h⟩
theorem s_rt_lt {a0 : Nat} {sh : Nat → Nat} {n : Nat} (hS : 1 ≤ f_sn sh n) (h72 : f_sn sh n ≤ 100) (j : Nat) : f_rt a0 sh n j < 100000 := by
  have : f_rt a0 sh n j < f_sn sh n := Nat.mod_lt _ (by omega)
  omega
theorem s_sn_le {sh : Nat → Nat} {n : Nat} (h8 : n ≤ 8) (hs9 : ∀ j, j < n → sh j ≤ 9) : f_sn sh n ≤ 100 := by
  have := x_sn_le (s := sh) (c := 9) n hs9
  omega
/-- the portions: by sorting, in rounds -/
theorem s_por {d : xd} {a n a0 i : Nat} {sh : Nat → Nat} (h8 : n ≤ 8) (hs9 : ∀ j, j < n → sh j ≤ 9) (hS : 1 ≤ f_sn sh n) (hi : i < n) : f_por d a n a0 sh i = nI (g_por a0 sh n i) := by
  have h100 := s_sn_le h8 hs9
  have hR : ∀ j, j < n → f_R a0 sh n (d (a + 2)) n j = nI (f_rt a0 sh n j) := fun j hj => by
    unfold f_R f_fill
    rw [if_pos hj]
  have hr : ∀ j, j < n → f_rt a0 sh n j < 100000 := fun j _ => s_rt_lt hS h100 j
  have h1 := s_inc (p := f_Q a0 sh n (d (a + 1)) n) (ord := f_ord (f_R a0 sh n (d (a + 2)) n) n) (r := f_rt a0 sh n) (n := n) (fun j hj => ⟨f_ord_lt _ n j hj, s_ord hR hr n (Nat.le_refl n) j hj⟩) hi (a0 - f_sn (f_qt a0 sh n) n) (x_left hS)
  have hQ : f_Q a0 sh n (d (a + 1)) n i = nI (f_qt a0 sh n i) := by
    unfold f_Q f_fill
    rw [if_pos hi]
  unfold f_por g_por
  rw [h1, hQ]
  by_cases z : g_ah (f_rt a0 sh n) i n < a0 - f_sn (f_qt a0 sh n) n
  · rw [if_pos z, if_pos z, nI_1]
  · rw [if_neg z, if_neg z]
    rfl
theorem s_prr {d : xd} {a m a0 i : Nat} {sh : Nat → Nat} (h8 : m + 1 ≤ 8) (hs9 : ∀ j, j < m + 1 → sh j ≤ 9) (hS : 1 ≤ f_sn sh (m + 1)) (hi : i < m + 1) : f_prr d a m a0 sh i = nI (g_por a0 sh (m + 1) i) := by
  have h100 := s_sn_le h8 hs9
  have hR : ∀ j, j < m + 1 → f_R a0 sh (m + 1) (d (a + 2)) (m + 1) j = nI (f_rt a0 sh (m + 1) j) := fun j hj => by
    unfold f_R f_fill
    rw [if_pos hj]
  have hr : ∀ j, j < m + 1 → f_rt a0 sh (m + 1) j < 100000 := fun j _ => s_rt_lt hS h100 j
  have h1 := s_inc (p := f_Q a0 sh (m + 1) (d (a + 1)) (m + 1)) (ord := fun i => f_bst (f_rr (f_R a0 sh (m + 1) (d (a + 2)) (m + 1)) m i) m) (r := f_rt a0 sh (m + 1)) (n := m + 1) (fun j hj => (s_rr hR hr j (by omega)).2 hj) hi (a0 - f_sn (f_qt a0 sh (m + 1)) (m + 1)) (x_left hS)
  have hQ : f_Q a0 sh (m + 1) (d (a + 1)) (m + 1) i = nI (f_qt a0 sh (m + 1) i) := by
    unfold f_Q f_fill
    rw [if_pos hi]
  unfold f_prr g_por
  rw [h1, hQ]
  by_cases z : g_ah (f_rt a0 sh (m + 1)) i (m + 1) < a0 - f_sn (f_qt a0 sh (m + 1)) (m + 1)
  · rw [if_pos z, if_pos z, nI_1]
  · rw [if_neg z, if_neg z]
    rfl
