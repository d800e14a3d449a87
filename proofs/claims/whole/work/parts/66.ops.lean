-- STAND-INS
theorem n : True := trivial
theorem i : True := trivial
theorem k : True := trivial
theorem q : True := trivial
theorem u : True := trivial
theorem v : True := trivial
theorem w : True := trivial
theorem j : True := trivial
theorem o : True := trivial
theorem a : True := trivial
theorem b : True := trivial
theorem y : True := trivial
theorem z : True := trivial
theorem r : True := trivial
theorem t : True := trivial
theorem f : True := trivial
theorem g : True := trivial
theorem o2 : True := trivial
theorem a2 : True := trivial
theorem hlt : True := trivial
theorem hltk : True := trivial
theorem hlt3 : True := trivial
theorem hlt4 : True := trivial
theorem hn : True := trivial
theorem hq : True := trivial
theorem hm : True := trivial
theorem hi : True := trivial
theorem hi2 : True := trivial
theorem hi3 : True := trivial
theorem hk : True := trivial
theorem hj : True := trivial
theorem hb : True := trivial
theorem hs : True := trivial
theorem hw : True := trivial
theorem hx : True := trivial
theorem hz : True := trivial
theorem hv : True := trivial
theorem hr : True := trivial
theorem hc : True := trivial
theorem hu : True := trivial
theorem hp : True := trivial
theorem hl : True := trivial
theorem hh : True := trivial
theorem e : True := trivial
theorem e9 : True := trivial
theorem sh : True := trivial
theorem a0 : True := trivial
theorem c9 : True := trivial
theorem k9 : True := trivial
theorem m9 : True := trivial
theorem mm : True := trivial
theorem ha : True := trivial
theorem ho : True := trivial
theorem hS : True := trivial
theorem ha0 : True := trivial
theorem hs9 : True := trivial
theorem hk0 : True := trivial
theorem hk1 : True := trivial
theorem hk9 : True := trivial
theorem hap : True := trivial
theorem hoo : True := trivial
theorem qh : True := trivial
theorem ex : True := trivial
theorem ih : True := trivial
theorem ihk : True := trivial
theorem ih1 : True := trivial
theorem ih2 : True := trivial
theorem ih3 : True := trivial
theorem ih4 : True := trivial
theorem ihj : True := trivial
theorem st : True := trivial
theorem lst : True := trivial
theorem args0 : True := trivial
theorem hcn : True := trivial
theorem hcir : True := trivial
theorem q8 : True := trivial
theorem z8 : True := trivial
theorem h0 : True := trivial
theorem h1 : True := trivial
theorem h2 : True := trivial
theorem h3 : True := trivial
theorem h4 : True := trivial
theorem h5 : True := trivial
theorem h7 : True := trivial
theorem h10 : True := trivial
theorem h11 : True := trivial
theorem h12 : True := trivial
theorem h13 : True := trivial
theorem h14 : True := trivial
theorem h15 : True := trivial
theorem h16 : True := trivial
theorem h17 : True := trivial
theorem h18 : True := trivial
theorem h19 : True := trivial
theorem h20 : True := trivial
theorem h21 : True := trivial
theorem h22 : True := trivial
theorem h23 : True := trivial
theorem h24 : True := trivial
theorem h25 : True := trivial
theorem h26 : True := trivial
theorem h27 : True := trivial
theorem h28 : True := trivial
theorem h29 : True := trivial
theorem h30 : True := trivial
theorem h31 : True := trivial
theorem h32 : True := trivial
theorem h33 : True := trivial
theorem h34 : True := trivial
theorem h35 : True := trivial
theorem h36 : True := trivial
theorem h37 : True := trivial
theorem h38 : True := trivial
theorem h39 : True := trivial
theorem h40 : True := trivial
theorem h41 : True := trivial
theorem h42 : True := trivial
theorem h43 : True := trivial
theorem h44 : True := trivial
theorem h45 : True := trivial
theorem h46 : True := trivial
theorem h47 : True := trivial
theorem h48 : True := trivial
theorem h49 : True := trivial
theorem h50 : True := trivial
theorem h51 : True := trivial
theorem h52 : True := trivial
theorem h53 : True := trivial
theorem h54 : True := trivial
theorem h55 : True := trivial
theorem h56 : True := trivial
theorem h57 : True := trivial
theorem h58 : True := trivial
theorem h59 : True := trivial
theorem h60 : True := trivial
theorem h61 : True := trivial
theorem h62 : True := trivial
theorem h63 : True := trivial
theorem h64 : True := trivial
theorem h65 : True := trivial
theorem h66 : True := trivial
theorem h67 : True := trivial
theorem h68 : True := trivial
theorem h69 : True := trivial
theorem h70 : True := trivial
theorem h71 : True := trivial
theorem h72 : True := trivial
theorem h73 : True := trivial
theorem h74 : True := trivial
theorem h75 : True := trivial
theorem h76 : True := trivial
theorem h77 : True := trivial
theorem h78 : True := trivial
theorem h79 : True := trivial
theorem h80 : True := trivial
theorem h81 : True := trivial
theorem h82 : True := trivial
theorem h83 : True := trivial
theorem h84 : True := trivial
theorem h85 : True := trivial
theorem h86 : True := trivial
theorem h87 : True := trivial
theorem h88 : True := trivial
theorem h89 : True := trivial
theorem h90 : True := trivial
theorem h91 : True := trivial
theorem h92 : True := trivial
theorem h93 : True := trivial
theorem h94 : True := trivial
theorem h95 : True := trivial
theorem h96 : True := trivial
theorem h97 : True := trivial
theorem h98 : True := trivial
theorem h99 : True := trivial
theorem h100 : True := trivial
theorem h101 : True := trivial
theorem h102 : True := trivial
theorem h103 : True := trivial
theorem h104 : True := trivial
theorem h105 : True := trivial
theorem h106 : True := trivial
theorem h107 : True := trivial
theorem h108 : True := trivial
theorem h109 : True := trivial
theorem h110 : True := trivial
theorem h111 : True := trivial
theorem h112 : True := trivial
theorem h113 : True := trivial
theorem h114 : True := trivial
theorem h115 : True := trivial
theorem h116 : True := trivial
theorem h117 : True := trivial
theorem h118 : True := trivial
theorem h119 : True := trivial
theorem h120 : True := trivial
theorem h121 : True := trivial
theorem h122 : True := trivial
theorem h123 : True := trivial
theorem h124 : True := trivial
theorem h125 : True := trivial
theorem h126 : True := trivial
theorem h127 : True := trivial
theorem h128 : True := trivial
theorem h129 : True := trivial
theorem h130 : True := trivial
theorem h131 : True := trivial
theorem h132 : True := trivial
theorem h133 : True := trivial
theorem h134 : True := trivial
theorem h135 : True := trivial
theorem h136 : True := trivial
theorem h137 : True := trivial
theorem h138 : True := trivial
theorem h139 : True := trivial
theorem h140 : True := trivial
theorem h141 : True := trivial
theorem h142 : True := trivial
theorem h143 : True := trivial
theorem h144 : True := trivial
theorem h145 : True := trivial
theorem h146 : True := trivial
theorem h147 : True := trivial
theorem h148 : True := trivial
theorem h149 : True := trivial
theorem h150 : True := trivial
theorem h151 : True := trivial
theorem h152 : True := trivial
theorem h153 : True := trivial
theorem h154 : True := trivial
theorem h155 : True := trivial
theorem h156 : True := trivial
theorem h157 : True := trivial
theorem h158 : True := trivial
theorem h159 : True := trivial
theorem h160 : True := trivial
theorem h161 : True := trivial
theorem h162 : True := trivial
theorem h163 : True := trivial
theorem h164 : True := trivial
theorem h165 : True := trivial
theorem h166 : True := trivial
theorem h167 : True := trivial
theorem h168 : True := trivial
theorem h169 : True := trivial
theorem h170 : True := trivial
theorem h171 : True := trivial
theorem h172 : True := trivial
theorem h173 : True := trivial
theorem h174 : True := trivial
theorem h175 : True := trivial
theorem h176 : True := trivial
theorem h177 : True := trivial
theorem h178 : True := trivial
theorem h179 : True := trivial
theorem h180 : True := trivial
theorem h181 : True := trivial
theorem h182 : True := trivial
theorem h183 : True := trivial
theorem h184 : True := trivial
theorem h185 : True := trivial
theorem h186 : True := trivial
theorem h187 : True := trivial
theorem h188 : True := trivial
theorem h189 : True := trivial
theorem h190 : True := trivial
theorem h191 : True := trivial
theorem h192 : True := trivial
theorem h193 : True := trivial
theorem h194 : True := trivial
theorem h195 : True := trivial
theorem h196 : True := trivial
theorem h197 : True := trivial
theorem h198 : True := trivial
theorem h199 : True := trivial
theorem L0 : True := trivial
theorem L1 : True := trivial
theorem L2 : True := trivial
theorem L3 : True := trivial
theorem L4 : True := trivial
theorem L5 : True := trivial
theorem L6 : True := trivial
theorem L7 : True := trivial
theorem L8 : True := trivial
theorem L9 : True := trivial
theorem L10 : True := trivial
theorem L11 : True := trivial
theorem L12 : True := trivial
theorem L13 : True := trivial
theorem L14 : True := trivial
theorem L15 : True := trivial
theorem L16 : True := trivial
theorem L17 : True := trivial
theorem L18 : True := trivial
theorem L19 : True := trivial
theorem L20 : True := trivial
theorem L21 : True := trivial
theorem L22 : True := trivial
theorem L23 : True := trivial
theorem L24 : True := trivial
theorem L25 : True := trivial
theorem L26 : True := trivial
theorem L27 : True := trivial
theorem L28 : True := trivial
theorem L29 : True := trivial
theorem L30 : True := trivial
theorem L31 : True := trivial
theorem L32 : True := trivial
theorem L33 : True := trivial
theorem L34 : True := trivial
theorem L35 : True := trivial
theorem L36 : True := trivial
theorem L37 : True := trivial
theorem L38 : True := trivial
theorem L39 : True := trivial
theorem L40 : True := trivial
theorem L41 : True := trivial
theorem L42 : True := trivial
theorem L43 : True := trivial
theorem L44 : True := trivial
theorem L45 : True := trivial
theorem L46 : True := trivial
theorem L47 : True := trivial
theorem L48 : True := trivial
theorem L49 : True := trivial
theorem L50 : True := trivial
theorem L51 : True := trivial
theorem L52 : True := trivial
theorem L53 : True := trivial
theorem L54 : True := trivial
theorem L55 : True := trivial
theorem L56 : True := trivial
theorem L57 : True := trivial
theorem L58 : True := trivial
theorem L59 : True := trivial
theorem L60 : True := trivial
theorem L61 : True := trivial
theorem L62 : True := trivial
theorem L63 : True := trivial
theorem L64 : True := trivial
theorem L65 : True := trivial
theorem L66 : True := trivial
theorem L67 : True := trivial
theorem L68 : True := trivial
theorem L69 : True := trivial
theorem L70 : True := trivial
theorem L71 : True := trivial
theorem L72 : True := trivial
theorem L73 : True := trivial
theorem L74 : True := trivial
theorem L75 : True := trivial
theorem L76 : True := trivial
theorem L77 : True := trivial
theorem L78 : True := trivial
theorem L79 : True := trivial
theorem L80 : True := trivial
theorem L81 : True := trivial
theorem L82 : True := trivial
theorem L83 : True := trivial
theorem L84 : True := trivial
theorem L85 : True := trivial
theorem L86 : True := trivial
theorem L87 : True := trivial
theorem L88 : True := trivial
theorem L89 : True := trivial
theorem L90 : True := trivial
theorem L91 : True := trivial
theorem L92 : True := trivial
theorem L93 : True := trivial
theorem L94 : True := trivial
theorem L95 : True := trivial
theorem L96 : True := trivial
theorem L97 : True := trivial
theorem L98 : True := trivial
theorem L99 : True := trivial
theorem L100 : True := trivial
theorem L101 : True := trivial
theorem L102 : True := trivial
theorem L103 : True := trivial
theorem L104 : True := trivial
theorem L105 : True := trivial
theorem L106 : True := trivial
theorem L107 : True := trivial
theorem L108 : True := trivial
theorem L109 : True := trivial
theorem L110 : True := trivial
theorem L111 : True := trivial
theorem L112 : True := trivial
theorem L113 : True := trivial
theorem L114 : True := trivial
theorem L115 : True := trivial
theorem L116 : True := trivial
theorem L117 : True := trivial
theorem L118 : True := trivial
theorem L119 : True := trivial
theorem L120 : True := trivial
theorem L121 : True := trivial
theorem L122 : True := trivial
theorem L123 : True := trivial
theorem L124 : True := trivial
theorem L125 : True := trivial
theorem L126 : True := trivial
theorem L127 : True := trivial
theorem L128 : True := trivial
theorem L129 : True := trivial
theorem L130 : True := trivial
theorem L131 : True := trivial
theorem L132 : True := trivial
theorem L133 : True := trivial
theorem L134 : True := trivial
theorem L135 : True := trivial
theorem L136 : True := trivial
theorem L137 : True := trivial
theorem L138 : True := trivial
theorem L139 : True := trivial
theorem L140 : True := trivial
theorem L141 : True := trivial
theorem L142 : True := trivial
theorem L143 : True := trivial
theorem L144 : True := trivial
theorem L145 : True := trivial
theorem L146 : True := trivial
theorem L147 : True := trivial
theorem L148 : True := trivial
theorem L149 : True := trivial
theorem L150 : True := trivial
theorem L151 : True := trivial
theorem L152 : True := trivial
theorem L153 : True := trivial
theorem L154 : True := trivial
theorem L155 : True := trivial
theorem L156 : True := trivial
theorem L157 : True := trivial
theorem L158 : True := trivial
theorem L159 : True := trivial
theorem L160 : True := trivial
theorem L161 : True := trivial
theorem L162 : True := trivial
theorem L163 : True := trivial
theorem L164 : True := trivial
theorem L165 : True := trivial
theorem L166 : True := trivial
theorem L167 : True := trivial
theorem L168 : True := trivial
theorem L169 : True := trivial
theorem L170 : True := trivial
theorem L171 : True := trivial
theorem L172 : True := trivial
theorem L173 : True := trivial
theorem L174 : True := trivial
theorem L175 : True := trivial
theorem L176 : True := trivial
theorem L177 : True := trivial
theorem L178 : True := trivial
theorem L179 : True := trivial
theorem L180 : True := trivial
theorem L181 : True := trivial
theorem L182 : True := trivial
theorem L183 : True := trivial
theorem L184 : True := trivial
theorem L185 : True := trivial
theorem L186 : True := trivial
theorem L187 : True := trivial
theorem L188 : True := trivial
theorem L189 : True := trivial
theorem L190 : True := trivial
theorem L191 : True := trivial
theorem L192 : True := trivial
theorem L193 : True := trivial
theorem L194 : True := trivial
theorem L195 : True := trivial
theorem L196 : True := trivial
theorem L197 : True := trivial
theorem L198 : True := trivial
theorem L199 : True := trivial
-- STAND-INS
/-! each change keeps the relation: single writes -/
theorem x_pa {d : xd} {k j a b : Nat} {v : Int32} : x_p d k j v a b = if a = k then (if b = j then v else d k b) else d a b := by
  unfold x_p x_r
  by_cases h : a = k
  · rw [if_pos h, if_pos h]
    rfl
  · rw [if_neg h, if_neg h]
theorem x_ra {d : xd} {k a b : Nat} {f : Nat → Int32} : x_r d k f a b = if a = k then f b else d a b := by
  unfold x_r
  by_cases h : a = k
  · rw [if_pos h, if_pos h]
  · rw [if_neg h, if_neg h]
theorem x_prow {d : xd} {k j : Nat} {v : Int32} : x_p d k j v k = upd (d k) j v := x_r_same d k _
theorem f_sum_upd {f : Nat → Int32} {i : Nat} {v : Int32} : ∀ {n : Nat}, i < n → f_sum (upd f i v) n = f_sum f n + (v - f i)
  | 0, h => absurd h (Nat.not_lt_zero i)
  | n + 1, h => by
    rw [f_sum, f_sum]
    rcases Nat.lt_or_ge i n with z | z
    · rw [f_sum_upd z, x_upd_ne (by omega)]
      grind
    · have e : i = n := by omega
      subst e
      rw [x_upd_at, f_sum_cong (f := upd f i v) (g := f) (fun j hj => x_upd_ne (by omega))]
      grind
theorem f_sum_s0 {f g : Nat → Int32} {n : Nat} (h : ∀ j, j < n → f j = g j) (h0 : f n = 0) : f_sum f (n + 1) = f_sum g n := by
  rw [f_sum, f_sum_cong h, h0, Int32.add_zero]
theorem f_sn_upd {f g : Nat → Nat} {i : Nat} : ∀ {n : Nat}, i < n → (∀ j, j < n → j ≠ i → g j = f j) → f_sn g n + f i = f_sn f n + g i
  | 0, h, _ => absurd h (Nat.not_lt_zero i)
  | n + 1, h, hg => by
    rw [f_sn, f_sn]
    rcases Nat.lt_or_ge i n with z | z
    · have := f_sn_upd (f := f) (g := g) z (fun j hj => hg j (by omega))
      rw [hg n (by omega) (by omega)]
      omega
    · have e : i = n := by omega
      subst e
      rw [f_sn_cong (f := g) (g := f) (fun j hj => hg j (by omega) (by omega))]
      omega

theorem e_l2 {d : xd} {o n q : Nat} {z : Nat → Int32} {i : Nat} {v : Int32} (h : r_E d o z n q) (hn : n ≤ 8) (hq : q ≤ 6) (hi : i < 8) : r_E (x_p d (o + 2) i v) o (upd z (6 + i) v) n q := by
  obtain ⟨e1, e2, e3, e4, e5, e6, e7⟩ := h
  refine ⟨by rw [x_p_ne (by omega)]; exact e1, by rw [x_upd_ne (by omega)]; exact e2, by rw [x_p_ne (by omega)]; exact e3, by rw [x_upd_ne (by omega)]; exact e4, fun j hj => ?_, fun k hk => ?_, ?_⟩
  · obtain ⟨a2, a3, a4, a5, a6, a7, a8⟩ := e5 j hj
    by_cases e : j = i
    · subst e
      exact ⟨by rw [x_p_at, x_upd_at], by rw [x_p_ne (by omega), x_upd_ne (by omega)]; exact a3, by rw [x_p_ne (by omega), x_upd_ne (by omega)]; exact a4, by rw [x_p_ne (by omega), x_upd_ne (by omega)]; exact a5, by rw [x_p_ne (by omega), x_upd_ne (by omega)]; exact a6, by rw [x_p_ne (by omega), x_upd_ne (by omega)]; exact a7, by rw [x_p_ne (by omega), x_upd_ne (by omega)]; exact a8⟩
    · exact ⟨by rw [x_p_row e, x_upd_ne (by omega)]; exact a2, by rw [x_p_ne (by omega), x_upd_ne (by omega)]; exact a3, by rw [x_p_ne (by omega), x_upd_ne (by omega)]; exact a4, by rw [x_p_ne (by omega), x_upd_ne (by omega)]; exact a5, by rw [x_p_ne (by omega), x_upd_ne (by omega)]; exact a6, by rw [x_p_ne (by omega), x_upd_ne (by omega)]; exact a7, by rw [x_p_ne (by omega), x_upd_ne (by omega)]; exact a8⟩
  · rw [x_p_ne (by omega), x_p_ne (by omega), x_p_ne (by omega), x_upd_ne (by omega), x_upd_ne (by omega), x_upd_ne (by omega)]; exact e6 k hk
  · rw [x_p_ne (by omega), x_upd_ne (by omega), x_upd_ne (by omega), x_upd_ne (by omega), x_upd_ne (by omega)]; exact e7
theorem e_l3 {d : xd} {o n q : Nat} {z : Nat → Int32} {i : Nat} {v : Int32} (h : r_E d o z n q) (hn : n ≤ 8) (hq : q ≤ 6) (hi : i < 8) : r_E (x_p d (o + 3) i v) o (upd z (14 + i) v) n q := by
  obtain ⟨e1, e2, e3, e4, e5, e6, e7⟩ := h
  refine ⟨by rw [x_p_ne (by omega)]; exact e1, by rw [x_upd_ne (by omega)]; exact e2, by rw [x_p_ne (by omega)]; exact e3, by rw [x_upd_ne (by omega)]; exact e4, fun j hj => ?_, fun k hk => ?_, ?_⟩
  · obtain ⟨a2, a3, a4, a5, a6, a7, a8⟩ := e5 j hj
    by_cases e : j = i
    · subst e
      exact ⟨by rw [x_p_ne (by omega), x_upd_ne (by omega)]; exact a2, by rw [x_p_at, x_upd_at], by rw [x_p_ne (by omega), x_upd_ne (by omega)]; exact a4, by rw [x_p_ne (by omega), x_upd_ne (by omega)]; exact a5, by rw [x_p_ne (by omega), x_upd_ne (by omega)]; exact a6, by rw [x_p_ne (by omega), x_upd_ne (by omega)]; exact a7, by rw [x_p_ne (by omega), x_upd_ne (by omega)]; exact a8⟩
    · exact ⟨by rw [x_p_ne (by omega), x_upd_ne (by omega)]; exact a2, by rw [x_p_row e, x_upd_ne (by omega)]; exact a3, by rw [x_p_ne (by omega), x_upd_ne (by omega)]; exact a4, by rw [x_p_ne (by omega), x_upd_ne (by omega)]; exact a5, by rw [x_p_ne (by omega), x_upd_ne (by omega)]; exact a6, by rw [x_p_ne (by omega), x_upd_ne (by omega)]; exact a7, by rw [x_p_ne (by omega), x_upd_ne (by omega)]; exact a8⟩
  · rw [x_p_ne (by omega), x_p_ne (by omega), x_p_ne (by omega), x_upd_ne (by omega), x_upd_ne (by omega), x_upd_ne (by omega)]; exact e6 k hk
  · rw [x_p_ne (by omega), x_upd_ne (by omega), x_upd_ne (by omega), x_upd_ne (by omega), x_upd_ne (by omega)]; exact e7
theorem e_l4 {d : xd} {o n q : Nat} {z : Nat → Int32} {i : Nat} {v : Int32} (h : r_E d o z n q) (hn : n ≤ 8) (hq : q ≤ 6) (hi : i < 8) : r_E (x_p d (o + 4) i v) o (upd z (22 + i) v) n q := by
  obtain ⟨e1, e2, e3, e4, e5, e6, e7⟩ := h
  refine ⟨by rw [x_p_ne (by omega)]; exact e1, by rw [x_upd_ne (by omega)]; exact e2, by rw [x_p_ne (by omega)]; exact e3, by rw [x_upd_ne (by omega)]; exact e4, fun j hj => ?_, fun k hk => ?_, ?_⟩
  · obtain ⟨a2, a3, a4, a5, a6, a7, a8⟩ := e5 j hj
    by_cases e : j = i
    · subst e
      exact ⟨by rw [x_p_ne (by omega), x_upd_ne (by omega)]; exact a2, by rw [x_p_ne (by omega), x_upd_ne (by omega)]; exact a3, by rw [x_p_at, x_upd_at], by rw [x_p_ne (by omega), x_upd_ne (by omega)]; exact a5, by rw [x_p_ne (by omega), x_upd_ne (by omega)]; exact a6, by rw [x_p_ne (by omega), x_upd_ne (by omega)]; exact a7, by rw [x_p_ne (by omega), x_upd_ne (by omega)]; exact a8⟩
    · exact ⟨by rw [x_p_ne (by omega), x_upd_ne (by omega)]; exact a2, by rw [x_p_ne (by omega), x_upd_ne (by omega)]; exact a3, by rw [x_p_row e, x_upd_ne (by omega)]; exact a4, by rw [x_p_ne (by omega), x_upd_ne (by omega)]; exact a5, by rw [x_p_ne (by omega), x_upd_ne (by omega)]; exact a6, by rw [x_p_ne (by omega), x_upd_ne (by omega)]; exact a7, by rw [x_p_ne (by omega), x_upd_ne (by omega)]; exact a8⟩
  · rw [x_p_ne (by omega), x_p_ne (by omega), x_p_ne (by omega), x_upd_ne (by omega), x_upd_ne (by omega), x_upd_ne (by omega)]; exact e6 k hk
  · rw [x_p_ne (by omega), x_upd_ne (by omega), x_upd_ne (by omega), x_upd_ne (by omega), x_upd_ne (by omega)]; exact e7
theorem e_l6 {d : xd} {o n q : Nat} {z : Nat → Int32} {i : Nat} {v : Int32} (h : r_E d o z n q) (hn : n ≤ 8) (hq : q ≤ 6) (hi : i < 8) : r_E (x_p d (o + 6) i v) o (upd z (38 + i) v) n q := by
  obtain ⟨e1, e2, e3, e4, e5, e6, e7⟩ := h
  refine ⟨by rw [x_p_ne (by omega)]; exact e1, by rw [x_upd_ne (by omega)]; exact e2, by rw [x_p_ne (by omega)]; exact e3, by rw [x_upd_ne (by omega)]; exact e4, fun j hj => ?_, fun k hk => ?_, ?_⟩
  · obtain ⟨a2, a3, a4, a5, a6, a7, a8⟩ := e5 j hj
    by_cases e : j = i
    · subst e
      exact ⟨by rw [x_p_ne (by omega), x_upd_ne (by omega)]; exact a2, by rw [x_p_ne (by omega), x_upd_ne (by omega)]; exact a3, by rw [x_p_ne (by omega), x_upd_ne (by omega)]; exact a4, by rw [x_p_ne (by omega), x_upd_ne (by omega)]; exact a5, by rw [x_p_at, x_upd_at], by rw [x_p_ne (by omega), x_upd_ne (by omega)]; exact a7, by rw [x_p_ne (by omega), x_upd_ne (by omega)]; exact a8⟩
    · exact ⟨by rw [x_p_ne (by omega), x_upd_ne (by omega)]; exact a2, by rw [x_p_ne (by omega), x_upd_ne (by omega)]; exact a3, by rw [x_p_ne (by omega), x_upd_ne (by omega)]; exact a4, by rw [x_p_ne (by omega), x_upd_ne (by omega)]; exact a5, by rw [x_p_row e, x_upd_ne (by omega)]; exact a6, by rw [x_p_ne (by omega), x_upd_ne (by omega)]; exact a7, by rw [x_p_ne (by omega), x_upd_ne (by omega)]; exact a8⟩
  · rw [x_p_ne (by omega), x_p_ne (by omega), x_p_ne (by omega), x_upd_ne (by omega), x_upd_ne (by omega), x_upd_ne (by omega)]; exact e6 k hk
  · rw [x_p_ne (by omega), x_upd_ne (by omega), x_upd_ne (by omega), x_upd_ne (by omega), x_upd_ne (by omega)]; exact e7
theorem e_l7 {d : xd} {o n q : Nat} {z : Nat → Int32} {i : Nat} {v : Int32} (h : r_E d o z n q) (hn : n ≤ 8) (hq : q ≤ 6) (hi : i < 8) : r_E (x_p d (o + 7) i v) o (upd z (46 + i) v) n q := by
  obtain ⟨e1, e2, e3, e4, e5, e6, e7⟩ := h
  refine ⟨by rw [x_p_ne (by omega)]; exact e1, by rw [x_upd_ne (by omega)]; exact e2, by rw [x_p_ne (by omega)]; exact e3, by rw [x_upd_ne (by omega)]; exact e4, fun j hj => ?_, fun k hk => ?_, ?_⟩
  · obtain ⟨a2, a3, a4, a5, a6, a7, a8⟩ := e5 j hj
    by_cases e : j = i
    · subst e
      exact ⟨by rw [x_p_ne (by omega), x_upd_ne (by omega)]; exact a2, by rw [x_p_ne (by omega), x_upd_ne (by omega)]; exact a3, by rw [x_p_ne (by omega), x_upd_ne (by omega)]; exact a4, by rw [x_p_ne (by omega), x_upd_ne (by omega)]; exact a5, by rw [x_p_ne (by omega), x_upd_ne (by omega)]; exact a6, by rw [x_p_at, x_upd_at], by rw [x_p_ne (by omega), x_upd_ne (by omega)]; exact a8⟩
    · exact ⟨by rw [x_p_ne (by omega), x_upd_ne (by omega)]; exact a2, by rw [x_p_ne (by omega), x_upd_ne (by omega)]; exact a3, by rw [x_p_ne (by omega), x_upd_ne (by omega)]; exact a4, by rw [x_p_ne (by omega), x_upd_ne (by omega)]; exact a5, by rw [x_p_ne (by omega), x_upd_ne (by omega)]; exact a6, by rw [x_p_row e, x_upd_ne (by omega)]; exact a7, by rw [x_p_ne (by omega), x_upd_ne (by omega)]; exact a8⟩
  · rw [x_p_ne (by omega), x_p_ne (by omega), x_p_ne (by omega), x_upd_ne (by omega), x_upd_ne (by omega), x_upd_ne (by omega)]; exact e6 k hk
  · rw [x_p_ne (by omega), x_upd_ne (by omega), x_upd_ne (by omega), x_upd_ne (by omega), x_upd_ne (by omega)]; exact e7
theorem e_l8 {d : xd} {o n q : Nat} {z : Nat → Int32} {i : Nat} {v : Int32} (h : r_E d o z n q) (hn : n ≤ 8) (hq : q ≤ 6) (hi : i < 8) : r_E (x_p d (o + 8) i v) o (upd z (54 + i) v) n q := by
  obtain ⟨e1, e2, e3, e4, e5, e6, e7⟩ := h
  refine ⟨by rw [x_p_ne (by omega)]; exact e1, by rw [x_upd_ne (by omega)]; exact e2, by rw [x_p_ne (by omega)]; exact e3, by rw [x_upd_ne (by omega)]; exact e4, fun j hj => ?_, fun k hk => ?_, ?_⟩
  · obtain ⟨a2, a3, a4, a5, a6, a7, a8⟩ := e5 j hj
    by_cases e : j = i
    · subst e
      exact ⟨by rw [x_p_ne (by omega), x_upd_ne (by omega)]; exact a2, by rw [x_p_ne (by omega), x_upd_ne (by omega)]; exact a3, by rw [x_p_ne (by omega), x_upd_ne (by omega)]; exact a4, by rw [x_p_ne (by omega), x_upd_ne (by omega)]; exact a5, by rw [x_p_ne (by omega), x_upd_ne (by omega)]; exact a6, by rw [x_p_ne (by omega), x_upd_ne (by omega)]; exact a7, by rw [x_p_at, x_upd_at]⟩
    · exact ⟨by rw [x_p_ne (by omega), x_upd_ne (by omega)]; exact a2, by rw [x_p_ne (by omega), x_upd_ne (by omega)]; exact a3, by rw [x_p_ne (by omega), x_upd_ne (by omega)]; exact a4, by rw [x_p_ne (by omega), x_upd_ne (by omega)]; exact a5, by rw [x_p_ne (by omega), x_upd_ne (by omega)]; exact a6, by rw [x_p_ne (by omega), x_upd_ne (by omega)]; exact a7, by rw [x_p_row e, x_upd_ne (by omega)]; exact a8⟩
  · rw [x_p_ne (by omega), x_p_ne (by omega), x_p_ne (by omega), x_upd_ne (by omega), x_upd_ne (by omega), x_upd_ne (by omega)]; exact e6 k hk
  · rw [x_p_ne (by omega), x_upd_ne (by omega), x_upd_ne (by omega), x_upd_ne (by omega), x_upd_ne (by omega)]; exact e7
theorem e_l5 {d : xd} {o n q : Nat} {z : Nat → Int32} {i : Nat} {v u : Int32} (hv : (¬ x_bz v = 0 ∧ u = 0) ∨ (x_bz v = 0 ∧ u = 1)) (h : r_E d o z n q) (hn : n ≤ 8) (hq : q ≤ 6) (hi : i < 8) : r_E (x_p d (o + 5) i v) o (upd z (30 + i) u) n q := by
  obtain ⟨e1, e2, e3, e4, e5, e6, e7⟩ := h
  refine ⟨by rw [x_p_ne (by omega)]; exact e1, by rw [x_upd_ne (by omega)]; exact e2, by rw [x_p_ne (by omega)]; exact e3, by rw [x_upd_ne (by omega)]; exact e4, fun j hj => ?_, fun k hk => ?_, ?_⟩
  · obtain ⟨a2, a3, a4, a5, a6, a7, a8⟩ := e5 j hj
    by_cases e : j = i
    · subst e
      exact ⟨by rw [x_p_ne (by omega), x_upd_ne (by omega)]; exact a2, by rw [x_p_ne (by omega), x_upd_ne (by omega)]; exact a3, by rw [x_p_ne (by omega), x_upd_ne (by omega)]; exact a4, by rw [x_p_at, x_upd_at]; exact hv, by rw [x_p_ne (by omega), x_upd_ne (by omega)]; exact a6, by rw [x_p_ne (by omega), x_upd_ne (by omega)]; exact a7, by rw [x_p_ne (by omega), x_upd_ne (by omega)]; exact a8⟩
    · exact ⟨by rw [x_p_ne (by omega), x_upd_ne (by omega)]; exact a2, by rw [x_p_ne (by omega), x_upd_ne (by omega)]; exact a3, by rw [x_p_ne (by omega), x_upd_ne (by omega)]; exact a4, by rw [x_p_row e, x_upd_ne (by omega)]; exact a5, by rw [x_p_ne (by omega), x_upd_ne (by omega)]; exact a6, by rw [x_p_ne (by omega), x_upd_ne (by omega)]; exact a7, by rw [x_p_ne (by omega), x_upd_ne (by omega)]; exact a8⟩
  · rw [x_p_ne (by omega), x_p_ne (by omega), x_p_ne (by omega), x_upd_ne (by omega), x_upd_ne (by omega), x_upd_ne (by omega)]; exact e6 k hk
  · rw [x_p_ne (by omega), x_upd_ne (by omega), x_upd_ne (by omega), x_upd_ne (by omega), x_upd_ne (by omega)]; exact e7
theorem e_m10 {d : xd} {o n q : Nat} {z : Nat → Int32} {i : Nat} {v u : Int32} (hv : v = u - 1) (h : r_E d o z n q) (hn : n ≤ 8) (hq : q ≤ 6) (hi : i < 6) : r_E (x_p d (o + 10) i v) o (upd z (62 + i) u) n q := by
  obtain ⟨e1, e2, e3, e4, e5, e6, e7⟩ := h
  refine ⟨by rw [x_p_ne (by omega)]; exact e1, by rw [x_upd_ne (by omega)]; exact e2, by rw [x_p_ne (by omega)]; exact e3, by rw [x_upd_ne (by omega)]; exact e4, fun j hj => ?_, fun k hk => ?_, ?_⟩
  · rw [x_p_ne (by omega), x_p_ne (by omega), x_p_ne (by omega), x_p_ne (by omega), x_p_ne (by omega), x_p_ne (by omega), x_p_ne (by omega), x_upd_ne (by omega), x_upd_ne (by omega), x_upd_ne (by omega), x_upd_ne (by omega), x_upd_ne (by omega), x_upd_ne (by omega), x_upd_ne (by omega)]; exact e5 j hj
  · obtain ⟨a10, a11, a12⟩ := e6 k hk
    by_cases e : k = i
    · subst e
      exact ⟨by rw [x_p_at, x_upd_at]; exact hv, by rw [x_p_ne (by omega), x_upd_ne (by omega)]; exact a11, by rw [x_p_ne (by omega), x_upd_ne (by omega)]; exact a12⟩
    · exact ⟨by rw [x_p_row e, x_upd_ne (by omega)]; exact a10, by rw [x_p_ne (by omega), x_upd_ne (by omega)]; exact a11, by rw [x_p_ne (by omega), x_upd_ne (by omega)]; exact a12⟩
  · rw [x_p_ne (by omega), x_upd_ne (by omega), x_upd_ne (by omega), x_upd_ne (by omega), x_upd_ne (by omega)]; exact e7
theorem e_m11 {d : xd} {o n q : Nat} {z : Nat → Int32} {i : Nat} {v : Int32} (h : r_E d o z n q) (hn : n ≤ 8) (hq : q ≤ 6) (hi : i < 6) : r_E (x_p d (o + 11) i v) o (upd z (68 + i) v) n q := by
  obtain ⟨e1, e2, e3, e4, e5, e6, e7⟩ := h
  refine ⟨by rw [x_p_ne (by omega)]; exact e1, by rw [x_upd_ne (by omega)]; exact e2, by rw [x_p_ne (by omega)]; exact e3, by rw [x_upd_ne (by omega)]; exact e4, fun j hj => ?_, fun k hk => ?_, ?_⟩
  · rw [x_p_ne (by omega), x_p_ne (by omega), x_p_ne (by omega), x_p_ne (by omega), x_p_ne (by omega), x_p_ne (by omega), x_p_ne (by omega), x_upd_ne (by omega), x_upd_ne (by omega), x_upd_ne (by omega), x_upd_ne (by omega), x_upd_ne (by omega), x_upd_ne (by omega), x_upd_ne (by omega)]; exact e5 j hj
  · obtain ⟨a10, a11, a12⟩ := e6 k hk
    by_cases e : k = i
    · subst e
      exact ⟨by rw [x_p_ne (by omega), x_upd_ne (by omega)]; exact a10, by rw [x_p_at, x_upd_at], by rw [x_p_ne (by omega), x_upd_ne (by omega)]; exact a12⟩
    · exact ⟨by rw [x_p_ne (by omega), x_upd_ne (by omega)]; exact a10, by rw [x_p_row e, x_upd_ne (by omega)]; exact a11, by rw [x_p_ne (by omega), x_upd_ne (by omega)]; exact a12⟩
  · rw [x_p_ne (by omega), x_upd_ne (by omega), x_upd_ne (by omega), x_upd_ne (by omega), x_upd_ne (by omega)]; exact e7
theorem e_m12 {d : xd} {o n q : Nat} {z : Nat → Int32} {i : Nat} {v : Int32} (h : r_E d o z n q) (hn : n ≤ 8) (hq : q ≤ 6) (hi : i < 6) : r_E (x_p d (o + 12) i v) o (upd z (74 + i) v) n q := by
  obtain ⟨e1, e2, e3, e4, e5, e6, e7⟩ := h
  refine ⟨by rw [x_p_ne (by omega)]; exact e1, by rw [x_upd_ne (by omega)]; exact e2, by rw [x_p_ne (by omega)]; exact e3, by rw [x_upd_ne (by omega)]; exact e4, fun j hj => ?_, fun k hk => ?_, ?_⟩
  · rw [x_p_ne (by omega), x_p_ne (by omega), x_p_ne (by omega), x_p_ne (by omega), x_p_ne (by omega), x_p_ne (by omega), x_p_ne (by omega), x_upd_ne (by omega), x_upd_ne (by omega), x_upd_ne (by omega), x_upd_ne (by omega), x_upd_ne (by omega), x_upd_ne (by omega), x_upd_ne (by omega)]; exact e5 j hj
  · obtain ⟨a10, a11, a12⟩ := e6 k hk
    by_cases e : k = i
    · subst e
      exact ⟨by rw [x_p_ne (by omega), x_upd_ne (by omega)]; exact a10, by rw [x_p_ne (by omega), x_upd_ne (by omega)]; exact a11, by rw [x_p_at, x_upd_at]⟩
    · exact ⟨by rw [x_p_ne (by omega), x_upd_ne (by omega)]; exact a10, by rw [x_p_ne (by omega), x_upd_ne (by omega)]; exact a11, by rw [x_p_row e, x_upd_ne (by omega)]; exact a12⟩
  · rw [x_p_ne (by omega), x_upd_ne (by omega), x_upd_ne (by omega), x_upd_ne (by omega), x_upd_ne (by omega)]; exact e7
theorem e_b3 {d : xd} {o n q : Nat} {z : Nat → Int32} {v : Int32} (h : r_E d o z n q) (hn : n ≤ 8) (hq : q ≤ 6) : r_E (x_p d (o + 13) 3 v) o (upd z 2 v) n q := by
  obtain ⟨e1, e2, e3, e4, e5, e6, e7⟩ := h
  refine ⟨by rw [x_p_ne (by omega)]; exact e1, by rw [x_upd_ne (by omega)]; exact e2, by rw [x_p_ne (by omega)]; exact e3, by rw [x_upd_ne (by omega)]; exact e4, fun j hj => ?_, fun k hk => ?_, ?_⟩
  · rw [x_p_ne (by omega), x_p_ne (by omega), x_p_ne (by omega), x_p_ne (by omega), x_p_ne (by omega), x_p_ne (by omega), x_p_ne (by omega), x_upd_ne (by omega), x_upd_ne (by omega), x_upd_ne (by omega), x_upd_ne (by omega), x_upd_ne (by omega), x_upd_ne (by omega), x_upd_ne (by omega)]; exact e5 j hj
  · rw [x_p_ne (by omega), x_p_ne (by omega), x_p_ne (by omega), x_upd_ne (by omega), x_upd_ne (by omega), x_upd_ne (by omega)]; exact e6 k hk
  · obtain ⟨a3, a0, a1, a2⟩ := e7
    exact ⟨by rw [x_p_at, x_upd_at], by rw [x_p_row (by omega), x_upd_ne (by omega)]; exact a0, by rw [x_p_row (by omega), x_upd_ne (by omega)]; exact a1, by rw [x_p_row (by omega), x_upd_ne (by omega)]; exact a2⟩
theorem e_b0 {d : xd} {o n q : Nat} {z : Nat → Int32} {v : Int32} (h : r_E d o z n q) (hn : n ≤ 8) (hq : q ≤ 6) : r_E (x_p d (o + 13) 0 v) o (upd z 3 v) n q := by
  obtain ⟨e1, e2, e3, e4, e5, e6, e7⟩ := h
  refine ⟨by rw [x_p_ne (by omega)]; exact e1, by rw [x_upd_ne (by omega)]; exact e2, by rw [x_p_ne (by omega)]; exact e3, by rw [x_upd_ne (by omega)]; exact e4, fun j hj => ?_, fun k hk => ?_, ?_⟩
  · rw [x_p_ne (by omega), x_p_ne (by omega), x_p_ne (by omega), x_p_ne (by omega), x_p_ne (by omega), x_p_ne (by omega), x_p_ne (by omega), x_upd_ne (by omega), x_upd_ne (by omega), x_upd_ne (by omega), x_upd_ne (by omega), x_upd_ne (by omega), x_upd_ne (by omega), x_upd_ne (by omega)]; exact e5 j hj
  · rw [x_p_ne (by omega), x_p_ne (by omega), x_p_ne (by omega), x_upd_ne (by omega), x_upd_ne (by omega), x_upd_ne (by omega)]; exact e6 k hk
  · obtain ⟨a3, a0, a1, a2⟩ := e7
    exact ⟨by rw [x_p_row (by omega), x_upd_ne (by omega)]; exact a3, by rw [x_p_at, x_upd_at], by rw [x_p_row (by omega), x_upd_ne (by omega)]; exact a1, by rw [x_p_row (by omega), x_upd_ne (by omega)]; exact a2⟩
theorem e_b1 {d : xd} {o n q : Nat} {z : Nat → Int32} {v : Int32} (h : r_E d o z n q) (hn : n ≤ 8) (hq : q ≤ 6) : r_E (x_p d (o + 13) 1 v) o (upd z 4 v) n q := by
  obtain ⟨e1, e2, e3, e4, e5, e6, e7⟩ := h
  refine ⟨by rw [x_p_ne (by omega)]; exact e1, by rw [x_upd_ne (by omega)]; exact e2, by rw [x_p_ne (by omega)]; exact e3, by rw [x_upd_ne (by omega)]; exact e4, fun j hj => ?_, fun k hk => ?_, ?_⟩
  · rw [x_p_ne (by omega), x_p_ne (by omega), x_p_ne (by omega), x_p_ne (by omega), x_p_ne (by omega), x_p_ne (by omega), x_p_ne (by omega), x_upd_ne (by omega), x_upd_ne (by omega), x_upd_ne (by omega), x_upd_ne (by omega), x_upd_ne (by omega), x_upd_ne (by omega), x_upd_ne (by omega)]; exact e5 j hj
  · rw [x_p_ne (by omega), x_p_ne (by omega), x_p_ne (by omega), x_upd_ne (by omega), x_upd_ne (by omega), x_upd_ne (by omega)]; exact e6 k hk
  · obtain ⟨a3, a0, a1, a2⟩ := e7
    exact ⟨by rw [x_p_row (by omega), x_upd_ne (by omega)]; exact a3, by rw [x_p_row (by omega), x_upd_ne (by omega)]; exact a0, by rw [x_p_at, x_upd_at], by rw [x_p_row (by omega), x_upd_ne (by omega)]; exact a2⟩
theorem e_b2 {d : xd} {o n q : Nat} {z : Nat → Int32} {v : Int32} (h : r_E d o z n q) (hn : n ≤ 8) (hq : q ≤ 6) : r_E (x_p d (o + 13) 2 v) o (upd z 5 v) n q := by
  obtain ⟨e1, e2, e3, e4, e5, e6, e7⟩ := h
  refine ⟨by rw [x_p_ne (by omega)]; exact e1, by rw [x_upd_ne (by omega)]; exact e2, by rw [x_p_ne (by omega)]; exact e3, by rw [x_upd_ne (by omega)]; exact e4, fun j hj => ?_, fun k hk => ?_, ?_⟩
  · rw [x_p_ne (by omega), x_p_ne (by omega), x_p_ne (by omega), x_p_ne (by omega), x_p_ne (by omega), x_p_ne (by omega), x_p_ne (by omega), x_upd_ne (by omega), x_upd_ne (by omega), x_upd_ne (by omega), x_upd_ne (by omega), x_upd_ne (by omega), x_upd_ne (by omega), x_upd_ne (by omega)]; exact e5 j hj
  · rw [x_p_ne (by omega), x_p_ne (by omega), x_p_ne (by omega), x_upd_ne (by omega), x_upd_ne (by omega), x_upd_ne (by omega)]; exact e6 k hk
  · obtain ⟨a3, a0, a1, a2⟩ := e7
    exact ⟨by rw [x_p_row (by omega), x_upd_ne (by omega)]; exact a3, by rw [x_p_row (by omega), x_upd_ne (by omega)]; exact a0, by rw [x_p_row (by omega), x_upd_ne (by omega)]; exact a1, by rw [x_p_at, x_upd_at]⟩
theorem e_bx {d : xd} {o n q : Nat} {z : Nat → Int32} {j : Nat} {v : Int32} (h : r_E d o z n q) (hj9 : 4 ≤ j) : r_E (x_p d (o + 13) j v) o z n q := by
  obtain ⟨e1, e2, e3, e4, e5, e6, e7⟩ := h
  refine ⟨by rw [x_p_ne (by omega)]; exact e1, e2, by rw [x_p_ne (by omega)]; exact e3, e4, fun j hj => ?_, fun k hk => ?_, ?_⟩
  · rw [x_p_ne (by omega), x_p_ne (by omega), x_p_ne (by omega), x_p_ne (by omega), x_p_ne (by omega), x_p_ne (by omega), x_p_ne (by omega)]; exact e5 j hj
  · rw [x_p_ne (by omega), x_p_ne (by omega), x_p_ne (by omega)]; exact e6 k hk
  · rw [x_p_row (by omega), x_p_row (by omega), x_p_row (by omega), x_p_row (by omega)]; exact e7
/-- one lamp more, its row told; one moth more -/
def r_L (d : xd) (o : Nat) (z : Nat → Int32) (i : Nat) : Prop := d (o + 2) i = z (6 + i) ∧ d (o + 3) i = z (14 + i) ∧ d (o + 4) i = z (22 + i) ∧ ((¬ x_bz (d (o + 5) i) = 0 ∧ z (30 + i) = 0) ∨ (x_bz (d (o + 5) i) = 0 ∧ z (30 + i) = 1)) ∧ d (o + 6) i = z (38 + i) ∧ d (o + 7) i = z (46 + i) ∧ d (o + 8) i = z (54 + i)
theorem e_n {d : xd} {o n q : Nat} {z : Nat → Int32} (h : r_E d o z n q) (hl : r_L d o z n) (hn : n < 8) (hq : q ≤ 6) : r_E (x_p d (o + 1) 0 (nI (n + 1))) o (upd z 0 (nI (n + 1))) (n + 1) q := by
  obtain ⟨e1, e2, e3, e4, e5, e6, e7⟩ := h
  refine ⟨x_p_at, x_upd_at, by rw [x_p_ne (by omega)]; exact e3, by rw [x_upd_ne (by omega)]; exact e4, fun j hj => ?_, fun k hk => ?_, ?_⟩
  · rw [x_p_ne (by omega), x_p_ne (by omega), x_p_ne (by omega), x_p_ne (by omega), x_p_ne (by omega), x_p_ne (by omega), x_p_ne (by omega), x_upd_ne (by omega), x_upd_ne (by omega), x_upd_ne (by omega), x_upd_ne (by omega), x_upd_ne (by omega), x_upd_ne (by omega), x_upd_ne (by omega)]
    rcases Nat.lt_or_ge j n with y | y
    · exact e5 j y
    · have e : j = n := by omega
      subst e
      exact hl
  · rw [x_p_ne (by omega), x_p_ne (by omega), x_p_ne (by omega), x_upd_ne (by omega), x_upd_ne (by omega), x_upd_ne (by omega)]; exact e6 k hk
  · rw [x_p_ne (by omega), x_upd_ne (by omega), x_upd_ne (by omega), x_upd_ne (by omega), x_upd_ne (by omega)]; exact e7
def r_K (d : xd) (o : Nat) (z : Nat → Int32) (k : Nat) : Prop := d (o + 10) k = z (62 + k) - 1 ∧ d (o + 11) k = z (68 + k) ∧ d (o + 12) k = z (74 + k)
theorem e_q {d : xd} {o n q : Nat} {z : Nat → Int32} (h : r_E d o z n q) (hl : r_K d o z q) (hn : n ≤ 8) (hq : q < 6) : r_E (x_p d (o + 9) 0 (nI (q + 1))) o (upd z 1 (nI (q + 1))) n (q + 1) := by
  obtain ⟨e1, e2, e3, e4, e5, e6, e7⟩ := h
  refine ⟨by rw [x_p_ne (by omega)]; exact e1, by rw [x_upd_ne (by omega)]; exact e2, x_p_at, x_upd_at, fun j hj => ?_, fun k hk => ?_, ?_⟩
  · rw [x_p_ne (by omega), x_p_ne (by omega), x_p_ne (by omega), x_p_ne (by omega), x_p_ne (by omega), x_p_ne (by omega), x_p_ne (by omega), x_upd_ne (by omega), x_upd_ne (by omega), x_upd_ne (by omega), x_upd_ne (by omega), x_upd_ne (by omega), x_upd_ne (by omega), x_upd_ne (by omega)]
    exact e5 j hj
  · rw [x_p_ne (by omega), x_p_ne (by omega), x_p_ne (by omega), x_upd_ne (by omega), x_upd_ne (by omega), x_upd_ne (by omega)]
    rcases Nat.lt_or_ge k q with y | y
    · exact e6 k y
    · have e : k = q := by omega
      subst e
      exact hl
  · rw [x_p_ne (by omega), x_upd_ne (by omega), x_upd_ne (by omega), x_upd_ne (by omega), x_upd_ne (by omega)]; exact e7
theorem v_l2 {d : xd} {o n q : Nat} {v : Int32} {i : Nat} (h : r_V d o n q) (hv : ∃ a, a < 4 ∧ v = nI a) : r_V (x_p d (o + 2) i v) o n q := by
  obtain ⟨v1, v2, v3, v4, v5⟩ := h
  refine ⟨v1, v2, fun j hj => ?_, fun k hk => by rw [x_p_ne (by omega), x_p_ne (by omega), x_p_ne (by omega)]; exact v4 k hk, by rw [x_p_ne (by omega)]; exact v5⟩
  obtain ⟨a2, a3, a4, a6, a7⟩ := v3 j hj
  by_cases e : j = i
  · subst e
    exact ⟨by rw [x_p_at]; exact hv, by rw [x_p_ne (by omega)]; exact a3, by rw [x_p_ne (by omega)]; exact a4, by rw [x_p_ne (by omega)]; exact a6, by rw [x_p_ne (by omega)]; exact a7⟩
  · exact ⟨by rw [x_p_row e]; exact a2, by rw [x_p_ne (by omega)]; exact a3, by rw [x_p_ne (by omega)]; exact a4, by rw [x_p_ne (by omega)]; exact a6, by rw [x_p_ne (by omega)]; exact a7⟩
theorem v_l3 {d : xd} {o n q : Nat} {v : Int32} {i : Nat} (h : r_V d o n q) (hv : ∃ a, 1 ≤ a ∧ a ≤ 9 ∧ v = nI a) : r_V (x_p d (o + 3) i v) o n q := by
  obtain ⟨v1, v2, v3, v4, v5⟩ := h
  refine ⟨v1, v2, fun j hj => ?_, fun k hk => by rw [x_p_ne (by omega), x_p_ne (by omega), x_p_ne (by omega)]; exact v4 k hk, by rw [x_p_ne (by omega)]; exact v5⟩
  obtain ⟨a2, a3, a4, a6, a7⟩ := v3 j hj
  by_cases e : j = i
  · subst e
    exact ⟨by rw [x_p_ne (by omega)]; exact a2, by rw [x_p_at]; exact hv, by rw [x_p_ne (by omega)]; exact a4, by rw [x_p_ne (by omega)]; exact a6, by rw [x_p_ne (by omega)]; exact a7⟩
  · exact ⟨by rw [x_p_ne (by omega)]; exact a2, by rw [x_p_row e]; exact a3, by rw [x_p_ne (by omega)]; exact a4, by rw [x_p_ne (by omega)]; exact a6, by rw [x_p_ne (by omega)]; exact a7⟩
theorem v_l4 {d : xd} {o n q : Nat} {v : Int32} {i : Nat} (h : r_V d o n q) (hv : ∃ a, 1 ≤ a ∧ a ≤ 5 ∧ v = nI a) : r_V (x_p d (o + 4) i v) o n q := by
  obtain ⟨v1, v2, v3, v4, v5⟩ := h
  refine ⟨v1, v2, fun j hj => ?_, fun k hk => by rw [x_p_ne (by omega), x_p_ne (by omega), x_p_ne (by omega)]; exact v4 k hk, by rw [x_p_ne (by omega)]; exact v5⟩
  obtain ⟨a2, a3, a4, a6, a7⟩ := v3 j hj
  by_cases e : j = i
  · subst e
    exact ⟨by rw [x_p_ne (by omega)]; exact a2, by rw [x_p_ne (by omega)]; exact a3, by rw [x_p_at]; exact hv, by rw [x_p_ne (by omega)]; exact a6, by rw [x_p_ne (by omega)]; exact a7⟩
  · exact ⟨by rw [x_p_ne (by omega)]; exact a2, by rw [x_p_ne (by omega)]; exact a3, by rw [x_p_row e]; exact a4, by rw [x_p_ne (by omega)]; exact a6, by rw [x_p_ne (by omega)]; exact a7⟩
theorem v_l5 {d : xd} {o n q : Nat} {v : Int32} {i : Nat} (h : r_V d o n q) : r_V (x_p d (o + 5) i v) o n q := by
  obtain ⟨v1, v2, v3, v4, v5⟩ := h
  refine ⟨v1, v2, fun j hj => ?_, fun k hk => by rw [x_p_ne (by omega), x_p_ne (by omega), x_p_ne (by omega)]; exact v4 k hk, by rw [x_p_ne (by omega)]; exact v5⟩
  rw [x_p_ne (by omega), x_p_ne (by omega), x_p_ne (by omega), x_p_ne (by omega), x_p_ne (by omega)]; exact v3 j hj
theorem v_l6 {d : xd} {o n q : Nat} {v : Int32} {i : Nat} (h : r_V d o n q) (hv : ∃ a, a ≤ 60 ∧ v = nI a) : r_V (x_p d (o + 6) i v) o n q := by
  obtain ⟨v1, v2, v3, v4, v5⟩ := h
  refine ⟨v1, v2, fun j hj => ?_, fun k hk => by rw [x_p_ne (by omega), x_p_ne (by omega), x_p_ne (by omega)]; exact v4 k hk, by rw [x_p_ne (by omega)]; exact v5⟩
  obtain ⟨a2, a3, a4, a6, a7⟩ := v3 j hj
  by_cases e : j = i
  · subst e
    exact ⟨by rw [x_p_ne (by omega)]; exact a2, by rw [x_p_ne (by omega)]; exact a3, by rw [x_p_ne (by omega)]; exact a4, by rw [x_p_at]; exact hv, by rw [x_p_ne (by omega)]; exact a7⟩
  · exact ⟨by rw [x_p_ne (by omega)]; exact a2, by rw [x_p_ne (by omega)]; exact a3, by rw [x_p_ne (by omega)]; exact a4, by rw [x_p_row e]; exact a6, by rw [x_p_ne (by omega)]; exact a7⟩
theorem v_l7 {d : xd} {o n q : Nat} {v : Int32} {i : Nat} (h : r_V d o n q) (hv : ∃ a, a ≤ 9 ∧ v = nI a) : r_V (x_p d (o + 7) i v) o n q := by
  obtain ⟨v1, v2, v3, v4, v5⟩ := h
  refine ⟨v1, v2, fun j hj => ?_, fun k hk => by rw [x_p_ne (by omega), x_p_ne (by omega), x_p_ne (by omega)]; exact v4 k hk, by rw [x_p_ne (by omega)]; exact v5⟩
  obtain ⟨a2, a3, a4, a6, a7⟩ := v3 j hj
  by_cases e : j = i
  · subst e
    exact ⟨by rw [x_p_ne (by omega)]; exact a2, by rw [x_p_ne (by omega)]; exact a3, by rw [x_p_ne (by omega)]; exact a4, by rw [x_p_ne (by omega)]; exact a6, by rw [x_p_at]; exact hv⟩
  · exact ⟨by rw [x_p_ne (by omega)]; exact a2, by rw [x_p_ne (by omega)]; exact a3, by rw [x_p_ne (by omega)]; exact a4, by rw [x_p_ne (by omega)]; exact a6, by rw [x_p_row e]; exact a7⟩
theorem v_l8 {d : xd} {o n q : Nat} {v : Int32} {i : Nat} (h : r_V d o n q) : r_V (x_p d (o + 8) i v) o n q := by
  obtain ⟨v1, v2, v3, v4, v5⟩ := h
  refine ⟨v1, v2, fun j hj => ?_, fun k hk => by rw [x_p_ne (by omega), x_p_ne (by omega), x_p_ne (by omega)]; exact v4 k hk, by rw [x_p_ne (by omega)]; exact v5⟩
  rw [x_p_ne (by omega), x_p_ne (by omega), x_p_ne (by omega), x_p_ne (by omega), x_p_ne (by omega)]; exact v3 j hj
theorem v_m10 {d : xd} {o n q : Nat} {v : Int32} {i : Nat} (h : r_V d o n q) (hv : v = -1 ∨ ∃ w, w < n ∧ v = nI w) : r_V (x_p d (o + 10) i v) o n q := by
  obtain ⟨v1, v2, v3, v4, v5⟩ := h
  refine ⟨v1, v2, fun j hj => by rw [x_p_ne (by omega), x_p_ne (by omega), x_p_ne (by omega), x_p_ne (by omega), x_p_ne (by omega)]; exact v3 j hj, fun k hk => ?_, by rw [x_p_ne (by omega)]; exact v5⟩
  obtain ⟨a10, a11, a12⟩ := v4 k hk
  by_cases e : k = i
  · subst e
    exact ⟨by rw [x_p_at]; exact hv, by rw [x_p_ne (by omega)]; exact a11, by rw [x_p_ne (by omega)]; exact a12⟩
  · exact ⟨by rw [x_p_row e]; exact a10, by rw [x_p_ne (by omega)]; exact a11, by rw [x_p_ne (by omega)]; exact a12⟩
theorem v_m11 {d : xd} {o n q : Nat} {v : Int32} {i : Nat} (h : r_V d o n q) (hv : v = 0 ∨ v = 1) : r_V (x_p d (o + 11) i v) o n q := by
  obtain ⟨v1, v2, v3, v4, v5⟩ := h
  refine ⟨v1, v2, fun j hj => by rw [x_p_ne (by omega), x_p_ne (by omega), x_p_ne (by omega), x_p_ne (by omega), x_p_ne (by omega)]; exact v3 j hj, fun k hk => ?_, by rw [x_p_ne (by omega)]; exact v5⟩
  obtain ⟨a10, a11, a12⟩ := v4 k hk
  by_cases e : k = i
  · subst e
    exact ⟨by rw [x_p_ne (by omega)]; exact a10, by rw [x_p_at]; exact hv, by rw [x_p_ne (by omega)]; exact a12⟩
  · exact ⟨by rw [x_p_ne (by omega)]; exact a10, by rw [x_p_row e]; exact a11, by rw [x_p_ne (by omega)]; exact a12⟩
theorem v_m12 {d : xd} {o n q : Nat} {v : Int32} {i : Nat} (h : r_V d o n q) (hv : ∃ a, a ≤ 3 ∧ v = nI a) : r_V (x_p d (o + 12) i v) o n q := by
  obtain ⟨v1, v2, v3, v4, v5⟩ := h
  refine ⟨v1, v2, fun j hj => by rw [x_p_ne (by omega), x_p_ne (by omega), x_p_ne (by omega), x_p_ne (by omega), x_p_ne (by omega)]; exact v3 j hj, fun k hk => ?_, by rw [x_p_ne (by omega)]; exact v5⟩
  obtain ⟨a10, a11, a12⟩ := v4 k hk
  by_cases e : k = i
  · subst e
    exact ⟨by rw [x_p_ne (by omega)]; exact a10, by rw [x_p_ne (by omega)]; exact a11, by rw [x_p_at]; exact hv⟩
  · exact ⟨by rw [x_p_ne (by omega)]; exact a10, by rw [x_p_ne (by omega)]; exact a11, by rw [x_p_row e]; exact a12⟩
theorem v_b1 {d : xd} {o n q : Nat} {v : Int32} (h : r_V d o n q) (hv : ∃ a, a ≤ 99 ∧ v = nI a) : r_V (x_p d (o + 13) 1 v) o n q := by
  obtain ⟨v1, v2, v3, v4, v5⟩ := h
  exact ⟨v1, v2, fun j hj => by rw [x_p_ne (by omega), x_p_ne (by omega), x_p_ne (by omega), x_p_ne (by omega), x_p_ne (by omega)]; exact v3 j hj, fun k hk => by rw [x_p_ne (by omega), x_p_ne (by omega), x_p_ne (by omega)]; exact v4 k hk, by rw [x_p_at]; exact hv⟩
theorem v_bx {d : xd} {o n q : Nat} {v : Int32} {j : Nat} (h : r_V d o n q) (hj9 : j ≠ 1) : r_V (x_p d (o + 13) j v) o n q := by
  obtain ⟨v1, v2, v3, v4, v5⟩ := h
  exact ⟨v1, v2, fun j hj => by rw [x_p_ne (by omega), x_p_ne (by omega), x_p_ne (by omega), x_p_ne (by omega), x_p_ne (by omega)]; exact v3 j hj, fun k hk => by rw [x_p_ne (by omega), x_p_ne (by omega), x_p_ne (by omega)]; exact v4 k hk, by rw [x_p_row (Ne.symm hj9)]; exact v5⟩
theorem v_n {d : xd} {o n q : Nat} {v : Int32} (h : r_V d o n q) (hn : n < 8) (hl : (∃ a, a < 4 ∧ d (o + 2) n = nI a) ∧ (∃ a, 1 ≤ a ∧ a ≤ 9 ∧ d (o + 3) n = nI a) ∧ (∃ a, 1 ≤ a ∧ a ≤ 5 ∧ d (o + 4) n = nI a) ∧ (∃ a, a ≤ 60 ∧ d (o + 6) n = nI a) ∧ (∃ a, a ≤ 9 ∧ d (o + 7) n = nI a)) : r_V (x_p d (o + 1) 0 v) o (n + 1) q := by
  obtain ⟨v1, v2, v3, v4, v5⟩ := h
  refine ⟨hn, v2, fun j hj => ?_, fun k hk => ?_, by rw [x_p_ne (by omega)]; exact v5⟩
  · rw [x_p_ne (by omega), x_p_ne (by omega), x_p_ne (by omega), x_p_ne (by omega), x_p_ne (by omega)]
    rcases Nat.lt_or_ge j n with y | y
    · exact v3 j y
    · have e : j = n := by omega
      subst e
      exact hl
  · rw [x_p_ne (by omega), x_p_ne (by omega), x_p_ne (by omega)]
    obtain ⟨a1, a2, a3⟩ := v4 k hk
    refine ⟨?_, a2, a3⟩
    rcases a1 with a1 | ⟨w, hw, a1⟩
    · exact Or.inl a1
    · exact Or.inr ⟨w, by omega, a1⟩
theorem v_q {d : xd} {o n q : Nat} {v : Int32} (h : r_V d o n q) (hq : q < 6) (hl : (d (o + 10) q = -1 ∨ ∃ w, w < n ∧ d (o + 10) q = nI w) ∧ (d (o + 11) q = 0 ∨ d (o + 11) q = 1) ∧ (∃ a, a ≤ 3 ∧ d (o + 12) q = nI a)) : r_V (x_p d (o + 9) 0 v) o n (q + 1) := by
  obtain ⟨v1, v2, v3, v4, v5⟩ := h
  refine ⟨v1, hq, fun j hj => ?_, fun k hk => ?_, by rw [x_p_ne (by omega)]; exact v5⟩
  · rw [x_p_ne (by omega), x_p_ne (by omega), x_p_ne (by omega), x_p_ne (by omega), x_p_ne (by omega)]
    exact v3 j hj
  · rw [x_p_ne (by omega), x_p_ne (by omega), x_p_ne (by omega)]
    rcases Nat.lt_or_ge k q with y | y
    · exact v4 k y
    · have e : k = q := by omega
      subst e
      exact hl
/-- money and balance: what they rest on -/
theorem m_cong {d d2 : xd} {o n B B2 : Nat} (h : r_M d o n B) (h8 : ∀ i, i < n → d2 (o + 8) i = d (o + 8) i) (h2 : d2 (o + 13) 2 = d (o + 13) 2) (hB : B ≤ B2) : r_M d2 o n B2 := by
  obtain ⟨b, t, a1, a2, a3⟩ := h
  exact ⟨b, t, fun i hi => (h8 i hi).trans (a1 i hi), h2.trans a2, by omega⟩
theorem b_cong {d d2 : xd} {o n : Nat} (h : f_bal d o n) (h6 : ∀ i, i < n → d2 (o + 6) i = d (o + 6) i) (h7 : ∀ i, i < n → d2 (o + 7) i = d (o + 7) i) (h8 : ∀ i, i < n → d2 (o + 8) i = d (o + 8) i) (h13 : ∀ j, j ≠ 3 → d2 (o + 13) j = d (o + 13) j) : f_bal d2 o n := by
  unfold f_bal
  rw [f_sum_cong h6, f_sum_cong h7, f_sum_cong h8, h13 0 (by omega), h13 1 (by omega), h13 2 (by omega), h13 4 (by omega), h13 5 (by omega), h13 6 (by omega), h13 7 (by omega), h13 8 (by omega), h13 9 (by omega)]
  exact h
/-! the changes -/
theorem t_add {B : Nat} {d : xd} {o n q : Nat} {z : Nat → Int32} (h : r_T B d o z n q) {a b : Int32} (h8 : n < 8) (ha : ∃ a2, a2 < 4 ∧ a = nI a2) (hb : ∃ b2, 1 ≤ b2 ∧ b2 ≤ 9 ∧ b = nI b2) : r_T B (f_app d o n a b) o (g_adds z a b n) (n + 1) q := by
  obtain ⟨e, v, m9, bl⟩ := h
  have hn := v.1
  have hq := v.2.1
  have n0 : nI 0 = 0 := nI_0
  unfold f_app g_adds
  refine ⟨?_, ?_, ?_, ?_⟩
  · refine e_n (e_l8 (e_l7 (e_l6 (e_l5 (by decide) (e_l4 (e_l3 (e_l2 e hn hq h8) hn hq h8) hn hq h8) hn hq h8) hn hq h8) hn hq h8) hn hq h8) ?_ h8 hq
    refine ⟨?_, ?_, ?_, Or.inl ⟨?_, ?_⟩, ?_, ?_, ?_⟩
    · rw [x_p_ne (by omega), x_p_ne (by omega), x_p_ne (by omega), x_p_ne (by omega), x_p_ne (by omega), x_p_ne (by omega), x_p_at, x_upd_ne (by omega), x_upd_ne (by omega), x_upd_ne (by omega), x_upd_ne (by omega), x_upd_ne (by omega), x_upd_ne (by omega), x_upd_at]
    · rw [x_p_ne (by omega), x_p_ne (by omega), x_p_ne (by omega), x_p_ne (by omega), x_p_ne (by omega), x_p_at, x_upd_ne (by omega), x_upd_ne (by omega), x_upd_ne (by omega), x_upd_ne (by omega), x_upd_ne (by omega), x_upd_at]
    · rw [x_p_ne (by omega), x_p_ne (by omega), x_p_ne (by omega), x_p_ne (by omega), x_p_at, x_upd_ne (by omega), x_upd_ne (by omega), x_upd_ne (by omega), x_upd_ne (by omega), x_upd_at]
    · rw [x_p_ne (by omega), x_p_ne (by omega), x_p_ne (by omega), x_p_at]
      decide
    · rw [x_upd_ne (by omega), x_upd_ne (by omega), x_upd_ne (by omega), x_upd_at]
    · rw [x_p_ne (by omega), x_p_ne (by omega), x_p_at, x_upd_ne (by omega), x_upd_ne (by omega), x_upd_at]
    · rw [x_p_ne (by omega), x_p_at, x_upd_ne (by omega), x_upd_at]
    · rw [x_p_at, x_upd_at]
  · refine v_n (v_l8 (v_l7 (v_l6 (v_l5 (v_l4 (v_l3 (v_l2 v ha) hb) ⟨1, by omega, by omega, rfl⟩)) ⟨0, by omega, rfl⟩) ⟨0, by omega, rfl⟩)) h8 ?_
    refine ⟨?_, ?_, ?_, ?_, ?_⟩
    · rw [x_p_ne (by omega), x_p_ne (by omega), x_p_ne (by omega), x_p_ne (by omega), x_p_ne (by omega), x_p_ne (by omega), x_p_at]; exact ha
    · rw [x_p_ne (by omega), x_p_ne (by omega), x_p_ne (by omega), x_p_ne (by omega), x_p_ne (by omega), x_p_at]; exact hb
    · rw [x_p_ne (by omega), x_p_ne (by omega), x_p_ne (by omega), x_p_ne (by omega), x_p_at]; exact ⟨1, by omega, by omega, rfl⟩
    · rw [x_p_ne (by omega), x_p_ne (by omega), x_p_at]; exact ⟨0, by omega, rfl⟩
    · rw [x_p_ne (by omega), x_p_at]; exact ⟨0, by omega, rfl⟩
  · obtain ⟨w, t, h1, h2, h3⟩ := m9
    refine ⟨fun j => if j < n then w j else 0, t, fun i hi => ?_, ?_, ?_⟩
    · show _ = nI (if i < n then w i else 0)
      rw [x_p_ne (by omega)]
      rcases Nat.lt_or_ge i n with y | y
      · rw [x_p_row (by omega), x_p_ne (by omega), x_p_ne (by omega), x_p_ne (by omega), x_p_ne (by omega), x_p_ne (by omega), x_p_ne (by omega), if_pos y]
        exact h1 i y
      · have e9 : i = n := by omega
        subst e9
        rw [if_neg (Nat.lt_irrefl i), x_p_at]
        exact n0.symm
    · rw [x_p_ne (by omega), x_p_ne (by omega), x_p_ne (by omega), x_p_ne (by omega), x_p_ne (by omega), x_p_ne (by omega), x_p_ne (by omega), x_p_ne (by omega)]
      exact h2
    · rw [f_sn, f_sn_cong (f := fun j => if j < n then w j else 0) (g := w) (fun j hj => if_pos hj), if_neg (Nat.lt_irrefl n)]
      omega
  · have r6 := f_sum_s0 (f := f_app d o n a b (o + 6)) (g := d (o + 6)) (n := n) (fun j hj => by unfold f_app; rw [x_p_ne (by omega), x_p_ne (by omega), x_p_ne (by omega), x_p_row (by omega), x_p_ne (by omega), x_p_ne (by omega), x_p_ne (by omega), x_p_ne (by omega)]) (by unfold f_app; rw [x_p_ne (by omega), x_p_ne (by omega), x_p_ne (by omega), x_p_at])
    have r7 := f_sum_s0 (f := f_app d o n a b (o + 7)) (g := d (o + 7)) (n := n) (fun j hj => by unfold f_app; rw [x_p_ne (by omega), x_p_ne (by omega), x_p_row (by omega), x_p_ne (by omega), x_p_ne (by omega), x_p_ne (by omega), x_p_ne (by omega), x_p_ne (by omega)]) (by unfold f_app; rw [x_p_ne (by omega), x_p_ne (by omega), x_p_at])
    have r8 := f_sum_s0 (f := f_app d o n a b (o + 8)) (g := d (o + 8)) (n := n) (fun j hj => by unfold f_app; rw [x_p_ne (by omega), x_p_row (by omega), x_p_ne (by omega), x_p_ne (by omega), x_p_ne (by omega), x_p_ne (by omega), x_p_ne (by omega), x_p_ne (by omega)]) (by unfold f_app; rw [x_p_ne (by omega), x_p_at])
    have r13 : f_app d o n a b (o + 13) = d (o + 13) := by unfold f_app; rw [x_p_ne (by omega), x_p_ne (by omega), x_p_ne (by omega), x_p_ne (by omega), x_p_ne (by omega), x_p_ne (by omega), x_p_ne (by omega), x_p_ne (by omega)]
    show f_bal (f_app d o n a b) o (n + 1)
    unfold f_bal
    rw [r6, r7, r8, r13]
    exact bl
