-- STAND-INS
theorem n : True := trivial
theorem i : True := trivial
theorem k : True := trivial
theorem q : True := trivial
theorem u : True := trivial
theorem v : True := trivial
theorem w : True := trivial
theorem j : True := trivial
theorem o : True := trivial
theorem a : True := trivial
theorem b : True := trivial
theorem y : True := trivial
theorem z : True := trivial
theorem r : True := trivial
theorem t : True := trivial
theorem f : True := trivial
theorem g : True := trivial
theorem o2 : True := trivial
theorem a2 : True := trivial
theorem hlt : True := trivial
theorem hltk : True := trivial
theorem hlt3 : True := trivial
theorem hlt4 : True := trivial
theorem hn : True := trivial
theorem hq : True := trivial
theorem hm : True := trivial
theorem hi : True := trivial
theorem hi2 : True := trivial
theorem hi3 : True := trivial
theorem hk : True := trivial
theorem hj : True := trivial
theorem hb : True := trivial
theorem hs : True := trivial
theorem hw : True := trivial
theorem hx : True := trivial
theorem hz : True := trivial
theorem hv : True := trivial
theorem hr : True := trivial
theorem hc : True := trivial
theorem hu : True := trivial
theorem hp : True := trivial
theorem hl : True := trivial
theorem hh : True := trivial
theorem e : True := trivial
theorem e9 : True := trivial
theorem sh : True := trivial
theorem a0 : True := trivial
theorem c9 : True := trivial
theorem k9 : True := trivial
theorem m9 : True := trivial
theorem mm : True := trivial
theorem ha : True := trivial
theorem ho : True := trivial
theorem hS : True := trivial
theorem ha0 : True := trivial
theorem hs9 : True := trivial
theorem hk0 : True := trivial
theorem hk1 : True := trivial
theorem hk9 : True := trivial
theorem hap : True := trivial
theorem hoo : True := trivial
theorem qh : True := trivial
theorem ex : True := trivial
theorem ih : True := trivial
theorem ihk : True := trivial
theorem ih1 : True := trivial
theorem ih2 : True := trivial
theorem ih3 : True := trivial
theorem ih4 : True := trivial
theorem ihj : True := trivial
theorem st : True := trivial
theorem lst : True := trivial
theorem args0 : True := trivial
theorem hcn : True := trivial
theorem hcir : True := trivial
theorem q8 : True := trivial
theorem z8 : True := trivial
theorem h0 : True := trivial
theorem h1 : True := trivial
theorem h2 : True := trivial
theorem h3 : True := trivial
theorem h4 : True := trivial
theorem h5 : True := trivial
theorem h7 : True := trivial
theorem h10 : True := trivial
theorem h11 : True := trivial
theorem h12 : True := trivial
theorem h13 : True := trivial
theorem h14 : True := trivial
theorem h15 : True := trivial
theorem h16 : True := trivial
theorem h17 : True := trivial
theorem h18 : True := trivial
theorem h19 : True := trivial
theorem h20 : True := trivial
theorem h21 : True := trivial
theorem h22 : True := trivial
theorem h23 : True := trivial
theorem h24 : True := trivial
theorem h25 : True := trivial
theorem h26 : True := trivial
theorem h27 : True := trivial
theorem h28 : True := trivial
theorem h29 : True := trivial
theorem h30 : True := trivial
theorem h31 : True := trivial
theorem h32 : True := trivial
theorem h33 : True := trivial
theorem h34 : True := trivial
theorem h35 : True := trivial
theorem h36 : True := trivial
theorem h37 : True := trivial
theorem h38 : True := trivial
theorem h39 : True := trivial
theorem h40 : True := trivial
theorem h41 : True := trivial
theorem h42 : True := trivial
theorem h43 : True := trivial
theorem h44 : True := trivial
theorem h45 : True := trivial
theorem h46 : True := trivial
theorem h47 : True := trivial
theorem h48 : True := trivial
theorem h49 : True := trivial
theorem h50 : True := trivial
theorem h51 : True := trivial
theorem h52 : True := trivial
theorem h53 : True := trivial
theorem h54 : True := trivial
theorem h55 : True := trivial
theorem h56 : True := trivial
theorem h57 : True := trivial
theorem h58 : True := trivial
theorem h59 : True := trivial
theorem h60 : True := trivial
theorem h61 : True := trivial
theorem h62 : True := trivial
theorem h63 : True := trivial
theorem h64 : True := trivial
theorem h65 : True := trivial
theorem h66 : True := trivial
theorem h67 : True := trivial
theorem h68 : True := trivial
theorem h69 : True := trivial
theorem h70 : True := trivial
theorem h71 : True := trivial
theorem h72 : True := trivial
theorem h73 : True := trivial
theorem h74 : True := trivial
theorem h75 : True := trivial
theorem h76 : True := trivial
theorem h77 : True := trivial
theorem h78 : True := trivial
theorem h79 : True := trivial
theorem h80 : True := trivial
theorem h81 : True := trivial
theorem h82 : True := trivial
theorem h83 : True := trivial
theorem h84 : True := trivial
theorem h85 : True := trivial
theorem h86 : True := trivial
theorem h87 : True := trivial
theorem h88 : True := trivial
theorem h89 : True := trivial
theorem h90 : True := trivial
theorem h91 : True := trivial
theorem h92 : True := trivial
theorem h93 : True := trivial
theorem h94 : True := trivial
theorem h95 : True := trivial
theorem h96 : True := trivial
theorem h97 : True := trivial
theorem h98 : True := trivial
theorem h99 : True := trivial
theorem h100 : True := trivial
theorem h101 : True := trivial
theorem h102 : True := trivial
theorem h103 : True := trivial
theorem h104 : True := trivial
theorem h105 : True := trivial
theorem h106 : True := trivial
theorem h107 : True := trivial
theorem h108 : True := trivial
theorem h109 : True := trivial
theorem h110 : True := trivial
theorem h111 : True := trivial
theorem h112 : True := trivial
theorem h113 : True := trivial
theorem h114 : True := trivial
theorem h115 : True := trivial
theorem h116 : True := trivial
theorem h117 : True := trivial
theorem h118 : True := trivial
theorem h119 : True := trivial
theorem h120 : True := trivial
theorem h121 : True := trivial
theorem h122 : True := trivial
theorem h123 : True := trivial
theorem h124 : True := trivial
theorem h125 : True := trivial
theorem h126 : True := trivial
theorem h127 : True := trivial
theorem h128 : True := trivial
theorem h129 : True := trivial
theorem h130 : True := trivial
theorem h131 : True := trivial
theorem h132 : True := trivial
theorem h133 : True := trivial
theorem h134 : True := trivial
theorem h135 : True := trivial
theorem h136 : True := trivial
theorem h137 : True := trivial
theorem h138 : True := trivial
theorem h139 : True := trivial
theorem h140 : True := trivial
theorem h141 : True := trivial
theorem h142 : True := trivial
theorem h143 : True := trivial
theorem h144 : True := trivial
theorem h145 : True := trivial
theorem h146 : True := trivial
theorem h147 : True := trivial
theorem h148 : True := trivial
theorem h149 : True := trivial
theorem h150 : True := trivial
theorem h151 : True := trivial
theorem h152 : True := trivial
theorem h153 : True := trivial
theorem h154 : True := trivial
theorem h155 : True := trivial
theorem h156 : True := trivial
theorem h157 : True := trivial
theorem h158 : True := trivial
theorem h159 : True := trivial
theorem h160 : True := trivial
theorem h161 : True := trivial
theorem h162 : True := trivial
theorem h163 : True := trivial
theorem h164 : True := trivial
theorem h165 : True := trivial
theorem h166 : True := trivial
theorem h167 : True := trivial
theorem h168 : True := trivial
theorem h169 : True := trivial
theorem h170 : True := trivial
theorem h171 : True := trivial
theorem h172 : True := trivial
theorem h173 : True := trivial
theorem h174 : True := trivial
theorem h175 : True := trivial
theorem h176 : True := trivial
theorem h177 : True := trivial
theorem h178 : True := trivial
theorem h179 : True := trivial
theorem h180 : True := trivial
theorem h181 : True := trivial
theorem h182 : True := trivial
theorem h183 : True := trivial
theorem h184 : True := trivial
theorem h185 : True := trivial
theorem h186 : True := trivial
theorem h187 : True := trivial
theorem h188 : True := trivial
theorem h189 : True := trivial
theorem h190 : True := trivial
theorem h191 : True := trivial
theorem h192 : True := trivial
theorem h193 : True := trivial
theorem h194 : True := trivial
theorem h195 : True := trivial
theorem h196 : True := trivial
theorem h197 : True := trivial
theorem h198 : True := trivial
theorem h199 : True := trivial
theorem L0 : True := trivial
theorem L1 : True := trivial
theorem L2 : True := trivial
theorem L3 : True := trivial
theorem L4 : True := trivial
theorem L5 : True := trivial
theorem L6 : True := trivial
theorem L7 : True := trivial
theorem L8 : True := trivial
theorem L9 : True := trivial
theorem L10 : True := trivial
theorem L11 : True := trivial
theorem L12 : True := trivial
theorem L13 : True := trivial
theorem L14 : True := trivial
theorem L15 : True := trivial
theorem L16 : True := trivial
theorem L17 : True := trivial
theorem L18 : True := trivial
theorem L19 : True := trivial
theorem L20 : True := trivial
theorem L21 : True := trivial
theorem L22 : True := trivial
theorem L23 : True := trivial
theorem L24 : True := trivial
theorem L25 : True := trivial
theorem L26 : True := trivial
theorem L27 : True := trivial
theorem L28 : True := trivial
theorem L29 : True := trivial
theorem L30 : True := trivial
theorem L31 : True := trivial
theorem L32 : True := trivial
theorem L33 : True := trivial
theorem L34 : True := trivial
theorem L35 : True := trivial
theorem L36 : True := trivial
theorem L37 : True := trivial
theorem L38 : True := trivial
theorem L39 : True := trivial
theorem L40 : True := trivial
theorem L41 : True := trivial
theorem L42 : True := trivial
theorem L43 : True := trivial
theorem L44 : True := trivial
theorem L45 : True := trivial
theorem L46 : True := trivial
theorem L47 : True := trivial
theorem L48 : True := trivial
theorem L49 : True := trivial
theorem L50 : True := trivial
theorem L51 : True := trivial
theorem L52 : True := trivial
theorem L53 : True := trivial
theorem L54 : True := trivial
theorem L55 : True := trivial
theorem L56 : True := trivial
theorem L57 : True := trivial
theorem L58 : True := trivial
theorem L59 : True := trivial
theorem L60 : True := trivial
theorem L61 : True := trivial
theorem L62 : True := trivial
theorem L63 : True := trivial
theorem L64 : True := trivial
theorem L65 : True := trivial
theorem L66 : True := trivial
theorem L67 : True := trivial
theorem L68 : True := trivial
theorem L69 : True := trivial
theorem L70 : True := trivial
theorem L71 : True := trivial
theorem L72 : True := trivial
theorem L73 : True := trivial
theorem L74 : True := trivial
theorem L75 : True := trivial
theorem L76 : True := trivial
theorem L77 : True := trivial
theorem L78 : True := trivial
theorem L79 : True := trivial
theorem L80 : True := trivial
theorem L81 : True := trivial
theorem L82 : True := trivial
theorem L83 : True := trivial
theorem L84 : True := trivial
theorem L85 : True := trivial
theorem L86 : True := trivial
theorem L87 : True := trivial
theorem L88 : True := trivial
theorem L89 : True := trivial
theorem L90 : True := trivial
theorem L91 : True := trivial
theorem L92 : True := trivial
theorem L93 : True := trivial
theorem L94 : True := trivial
theorem L95 : True := trivial
theorem L96 : True := trivial
theorem L97 : True := trivial
theorem L98 : True := trivial
theorem L99 : True := trivial
theorem L100 : True := trivial
theorem L101 : True := trivial
theorem L102 : True := trivial
theorem L103 : True := trivial
theorem L104 : True := trivial
theorem L105 : True := trivial
theorem L106 : True := trivial
theorem L107 : True := trivial
theorem L108 : True := trivial
theorem L109 : True := trivial
theorem L110 : True := trivial
theorem L111 : True := trivial
theorem L112 : True := trivial
theorem L113 : True := trivial
theorem L114 : True := trivial
theorem L115 : True := trivial
theorem L116 : True := trivial
theorem L117 : True := trivial
theorem L118 : True := trivial
theorem L119 : True := trivial
theorem L120 : True := trivial
theorem L121 : True := trivial
theorem L122 : True := trivial
theorem L123 : True := trivial
theorem L124 : True := trivial
theorem L125 : True := trivial
theorem L126 : True := trivial
theorem L127 : True := trivial
theorem L128 : True := trivial
theorem L129 : True := trivial
theorem L130 : True := trivial
theorem L131 : True := trivial
theorem L132 : True := trivial
theorem L133 : True := trivial
theorem L134 : True := trivial
theorem L135 : True := trivial
theorem L136 : True := trivial
theorem L137 : True := trivial
theorem L138 : True := trivial
theorem L139 : True := trivial
theorem L140 : True := trivial
theorem L141 : True := trivial
theorem L142 : True := trivial
theorem L143 : True := trivial
theorem L144 : True := trivial
theorem L145 : True := trivial
theorem L146 : True := trivial
theorem L147 : True := trivial
theorem L148 : True := trivial
theorem L149 : True := trivial
theorem L150 : True := trivial
theorem L151 : True := trivial
theorem L152 : True := trivial
theorem L153 : True := trivial
theorem L154 : True := trivial
theorem L155 : True := trivial
theorem L156 : True := trivial
theorem L157 : True := trivial
theorem L158 : True := trivial
theorem L159 : True := trivial
theorem L160 : True := trivial
theorem L161 : True := trivial
theorem L162 : True := trivial
theorem L163 : True := trivial
theorem L164 : True := trivial
theorem L165 : True := trivial
theorem L166 : True := trivial
theorem L167 : True := trivial
theorem L168 : True := trivial
theorem L169 : True := trivial
theorem L170 : True := trivial
theorem L171 : True := trivial
theorem L172 : True := trivial
theorem L173 : True := trivial
theorem L174 : True := trivial
theorem L175 : True := trivial
theorem L176 : True := trivial
theorem L177 : True := trivial
theorem L178 : True := trivial
theorem L179 : True := trivial
theorem L180 : True := trivial
theorem L181 : True := trivial
theorem L182 : True := trivial
theorem L183 : True := trivial
theorem L184 : True := trivial
theorem L185 : True := trivial
theorem L186 : True := trivial
theorem L187 : True := trivial
theorem L188 : True := trivial
theorem L189 : True := trivial
theorem L190 : True := trivial
theorem L191 : True := trivial
theorem L192 : True := trivial
theorem L193 : True := trivial
theorem L194 : True := trivial
theorem L195 : True := trivial
theorem L196 : True := trivial
theorem L197 : True := trivial
theorem L198 : True := trivial
theorem L199 : True := trivial
-- STAND-INS
/-! the class's cells and the model's cells say the same: the whole of them -/
def y_H (B : Nat) (d : xd) : Prop := ∃ q z, d 43 1 = nI q ∧ q < 8 ∧ d 43 0 = nI z ∧ z ≤ 8 ∧ d 175 3 = nI z ∧ ∀ j, j < z → r_S B d (45 + 14 * ((q + 8 - z + j) % 8)) (fun i => d 178 (j * 80 + i))
def y_N (B : Nat) (d : xd) : Prop := (d 0 3 = 0 ∧ d 175 5 = 0) ∨ (¬ d 0 3 = 0 ∧ ¬ d 175 5 = 0 ∧ r_S B d 29 (d 179))
def y_X (d : xd) : Prop := ∃ (L : Nat) (tx : Nat → Nat), L ≤ 60 ∧ d 168 1 = nI L ∧ d 175 7 = nI L ∧ ∀ j, j < L → d 169 j = nI (tx j) ∧ d 180 j = nI (tx j) ∧ 32 ≤ tx j ∧ tx j ≤ 126
def y_L (d : xd) : Prop := ∃ ls : List Nat, n_l d ls ∧ m_l d ls ∧ ls.length ≤ 15 ∧ (∀ a ∈ ls, a < 128) ∧ d 173 1 = 0
def y_R (d : xd) : Prop := d 0 11 = d 175 8 ∧ d 0 12 = d 175 9
def y_Z (B : Nat) (d : xd) : Prop := r_S B d 1 (d 176) ∧ y_H B d ∧ y_N B d ∧ y_X d ∧ y_L d ∧ y_R d
/-- what a change of the state leaves alone -/
def y_G (d d2 : xd) : Prop := (∀ k, (k = 0 ∨ (29 ≤ k ∧ k ≤ 42) ∨ k = 169 ∨ k = 173 ∨ k = 174 ∨ (179 ≤ k ∧ k ≤ 181)) → d2 k = d k) ∧ d2 168 1 = d 168 1 ∧ (∀ j, (j = 5 ∨ j = 7 ∨ j = 8 ∨ j = 9 ∨ j = 11) → d2 175 j = d 175 j)
theorem y_G_refl (d : xd) : y_G d d := ⟨fun _ _ => rfl, rfl, fun _ _ => rfl⟩
theorem y_G_trans {d d1 d2 : xd} (h : y_G d d1) (h2 : y_G d1 d2) : y_G d d2 := ⟨fun k hk => (h2.1 k hk).trans (h.1 k hk), h2.2.1.trans h.2.1, fun j hj => (h2.2.2 j hj).trans (h.2.2 j hj)⟩
theorem y_N_G {B B2 : Nat} {d d2 : xd} (h : y_N B d) (g : y_G d d2) (hB : B ≤ B2) : y_N B2 d2 := by
  unfold y_N
  rw [g.1 0 (Or.inl rfl), g.2.2 5 (Or.inl rfl)]
  rcases h with h | ⟨h1, h2, h3⟩
  · exact Or.inl h
  · refine Or.inr ⟨h1, h2, r_S_like h3 (r_rows (fun k hk hk2 => g.1 k (Or.inr (Or.inl ⟨by omega, by omega⟩)))) (fun k _ => by rw [g.1 179 (by omega)]) hB⟩
theorem y_X_G {d d2 : xd} (h : y_X d) (g : y_G d d2) : y_X d2 := by
  obtain ⟨L, tx, h1, h2, h3, h4⟩ := h
  refine ⟨L, tx, h1, g.2.1.trans h2, (g.2.2 7 (by omega)).trans h3, fun j hj => ?_⟩
  rw [g.1 169 (by omega), g.1 180 (by omega)]
  exact h4 j hj
theorem y_L_G {d d2 : xd} (h : y_L d) (g : y_G d d2) : y_L d2 := by
  obtain ⟨ls, ⟨h1, h2⟩, ⟨h3, h4⟩, h5, h6, h7⟩ := h
  refine ⟨ls, ⟨?_, fun j hj => ?_⟩, ⟨(g.2.2 11 (by omega)).trans h3, fun j hj => ?_⟩, h5, h6, ?_⟩
  · rw [g.1 173 (by omega)]; exact h1
  · rw [g.1 174 (by omega)]; exact h2 j hj
  · rw [g.1 181 (by omega)]; exact h4 j hj
  · rw [g.1 173 (by omega)]; exact h7
theorem y_R_G {d d2 : xd} (h : y_R d) (g : y_G d d2) : y_R d2 := by
  unfold y_R
  rw [g.1 0 (by omega), g.2.2 8 (by omega), g.2.2 9 (by omega)]
  exact h
/-- what a question leaves alone -/
def y_F (d d2 : xd) : Prop := y_G d d2 ∧ (∀ k, (k < 15 ∨ k = 43 ∨ (45 ≤ k ∧ k ≤ 156) ∨ k = 176 ∨ k = 178) → d2 k = d k) ∧ d2 175 3 = d 175 3
theorem y_F_refl (d : xd) : y_F d d := ⟨y_G_refl d, fun _ _ => rfl, rfl⟩
theorem y_F_trans {d d1 d2 : xd} (h : y_F d d1) (h2 : y_F d1 d2) : y_F d d2 := ⟨y_G_trans h.1 h2.1, fun k hk => (h2.2.1 k hk).trans (h.2.1 k hk), h2.2.2.trans h.2.2⟩
theorem y_Z_F {B B2 : Nat} {d d2 : xd} (h : y_Z B d) (g : y_F d d2) (hB : B ≤ B2) : y_Z B2 d2 := by
  obtain ⟨h1, h2, h3, h4, h5, h6⟩ := h
  refine ⟨r_S_like h1 (r_rows (fun k hk hk2 => g.2.1 k (by omega))) (fun k _ => by rw [g.2.1 176 (by omega)]) hB, ?_, y_N_G h3 g.1 hB, y_X_G h4 g.1, y_L_G h5 g.1, y_R_G h6 g.1⟩
  obtain ⟨q, z, e1, e2, e3, e4, e5, e6⟩ := h2
  refine ⟨q, z, by rw [g.2.1 43 (by omega)]; exact e1, e2, by rw [g.2.1 43 (by omega)]; exact e3, e4, g.2.2.trans e5, fun j hj => ?_⟩
  exact r_S_like (e6 j hj) (r_rows (fun k hk hk2 => g.2.1 k (by omega))) (fun k _ => by rw [g.2.1 178 (by omega)]) hB
theorem y_Z_B {B B2 : Nat} {d : xd} (h : y_Z B d) (hB : B ≤ B2) : y_Z B2 d := y_Z_F h (y_F_refl d) hB
/-- a question of the model, a refusal of it -/
theorem y_F_th (d : xd) (x : Int32) : y_F d (g_th d x) := by
  refine ⟨⟨fun k hk => x_p_ne (by omega), by rw [x_p_ne (by omega)], fun j hj => x_p_row (by omega)⟩, fun k hk => x_p_ne (by omega), x_p_row (by omega)⟩
theorem g_kf_same (d : xd) (x : Int32) : g_kf (g_th (g_bg d) x) 176 = d 176 := by
  unfold g_kf g_bg
  rw [x_r_same, x_p_ne (by omega), x_p_ne (by omega), x_r_same, x_r_ne2 (by omega)]
  funext j
  rcases Nat.lt_or_ge j 80 with h | h
  · rw [pk_cpy_in (by omega) (by omega), pk_cpy_in (by omega) (by omega)]
    congr 1
    omega
  · rw [pk_cpy_out (by omega)]
theorem y_F_kf (d : xd) (x : Int32) : y_F d (g_kf (g_th (g_bg d) x)) := by
  have e : ∀ k, k ≠ 175 → k ≠ 176 → k ≠ 177 → g_kf (g_th (g_bg d) x) k = d k := fun k h5 h6 h7 => by
    unfold g_kf g_bg
    rw [x_r_ne2 h6, x_p_ne h5, x_r_ne2 h7]
  have e5 : ∀ j, j ≠ 12 → g_kf (g_th (g_bg d) x) 175 j = d 175 j := fun j h => by
    unfold g_kf g_bg
    rw [x_r_ne2 (by omega), x_p_row h, x_r_ne2 (by omega)]
  refine ⟨⟨fun k hk => e k (by omega) (by omega) (by omega), by rw [e 168 (by omega) (by omega) (by omega)], fun j hj => e5 j (by omega)⟩, fun k hk => ?_, e5 3 (by omega)⟩
  by_cases h6 : k = 176
  · subst h6; exact g_kf_same d x
  · exact e k (by omega) h6 (by omega)
theorem g_kf_12 (d : xd) (x : Int32) : g_kf (g_th (g_bg d) x) 175 12 = x := by
  unfold g_kf
  rw [x_r_ne2 (by omega)]
  exact x_p_at
theorem g_kp_out {d : xd} {w k : Nat} (h : k ≠ 175) (h2 : k ≠ 178) : g_kp d w k = d k := by
  unfold g_kp
  split
  · unfold g_ks
    rw [x_p_ne h, x_r_ne2 h2, x_p_ne h, x_r_ne2 h2]
  · unfold g_kn
    rw [x_p_ne h, x_r_ne2 h2]
theorem g_kp_row {d : xd} {w j : Nat} (h : j ≠ 3) : g_kp d w 175 j = d 175 j := by
  unfold g_kp
  split
  · unfold g_ks
    rw [x_p_row h, x_r_ne2 (by omega), x_p_row h, x_r_ne2 (by omega)]
  · unfold g_kn
    rw [x_p_row h, x_r_ne2 (by omega)]
theorem g_kp_3 {d : xd} {w : Nat} (h : w ≤ 8) : g_kp d w 175 3 = nI (min (w + 1) 8) := by
  unfold g_kp
  split
  · rename_i e
    subst e
    unfold g_ks
    exact x_p_at
  · unfold g_kn
    rw [x_p_at, Nat.min_eq_left (by omega)]
/-- the model's past, kept: row i of it -/
theorem g_kp_178 {d : xd} {w i k : Nat} (h : w ≤ 8) (hk : k < 80) : (i < w → w < 8 → g_kp d w 178 (i * 80 + k) = d 178 (i * 80 + k)) ∧ (w = 8 → i < 7 → g_kp d w 178 (i * 80 + k) = d 178 ((i + 1) * 80 + k)) ∧ g_kp d w 178 (min w 7 * 80 + k) = d 177 k := by
  refine ⟨fun h1 h2 => ?_, fun h1 h2 => ?_, ?_⟩
  · unfold g_kp
    rw [if_neg (by omega)]
    unfold g_kn
    rw [x_p_ne (by omega), x_r_same, pk_cpy_out (by omega)]
  · subst h1
    unfold g_kp
    rw [if_pos rfl]
    unfold g_ks
    rw [x_p_ne (by omega), x_r_same, pk_cpy_out (by omega)]
    unfold g_sh
    simp only [f_fill]
    rw [if_pos (by omega)]
    congr 1
    omega
  · by_cases e : w = 8
    · subst e
      unfold g_kp
      rw [if_pos rfl]
      unfold g_ks
      rw [x_p_ne (by omega), x_r_same, pk_cpy_in (by omega) (by omega)]
      congr 1
      omega
    · unfold g_kp
      rw [if_neg e]
      unfold g_kn
      rw [x_p_ne (by omega), x_r_same, pk_cpy_in (by omega) (by omega)]
      congr 1
      omega
theorem f_rem_in {d : xd} {o q z k : Nat} (h : k ≠ 43) : f_rem d o q z k = f_cps d (45 + 14 * q) o k := by
  unfold f_rem
  rw [x_p_ne h, x_p_ne h]
theorem f_rem_43 {d : xd} {o q z : Nat} (q8 : q < 8) : f_rem d o q z 43 1 = nI ((q + 1) % 8) ∧ f_rem d o q z 43 0 = nI (min (z + 1) 8) := by
  unfold f_rem
  refine ⟨?_, x_p_at⟩
  rw [x_p_row (by omega)]
  exact x_p_at
/-- a change of both states that both sides keep the one before of -/
theorem y_op {B B2 : Nat} {d d1 : xd} {g : Nat → Int32} {q z : Nat} (h : y_Z B d) (hB : B ≤ B2) (hq : d 43 1 = nI q) (q8 : q < 8) (hz : d 43 0 = nI z) (z8 : z ≤ 8)
    (h0 : d1 0 = d 0) (h1 : ∀ k, (15 ≤ k ∧ k ≤ 156) ∨ 168 ≤ k → d1 k = f_rem d 1 q z k) (hs : r_S B2 d1 1 g) : y_Z B2 (g_kp (g_ok (g_bg d1) g) z) := by
  obtain ⟨a1, ⟨q2, z2, e1, e2, e3, e4, e5, e6⟩, a3, a4, a5, a6⟩ := h
  have hqq : q2 = q := (nI_eq (by omega) (by omega)).mp (e1.symm.trans hq)
  have hzz : z2 = z := (nI_eq (by omega) (by omega)).mp (e3.symm.trans hz)
  subst hqq
  subst hzz
  have k1 : ∀ k, k ≠ 175 → k ≠ 176 → k ≠ 177 → k ≠ 178 → g_kp (g_ok (g_bg d1) g) z2 k = d1 k := fun k h5 h6 h7 h8 => by
    rw [g_kp_out h5 h8, x_p_ne h5, x_r_ne2 h6]
    unfold g_bg
    rw [x_r_ne2 h7]
  have k6 : g_kp (g_ok (g_bg d1) g) z2 176 = g := by rw [g_kp_out (by omega) (by omega), x_p_ne (by omega), x_r_same]
  have kg : y_G d (g_kp (g_ok (g_bg d1) g) z2) := by
    have o : ∀ k, (29 ≤ k ∧ k ≤ 42) ∨ k = 169 ∨ k = 173 ∨ k = 174 ∨ (179 ≤ k ∧ k ≤ 181) ∨ k = 168 → g_kp (g_ok (g_bg d1) g) z2 k = d k := fun k hk => by
      rw [k1 k (by omega) (by omega) (by omega) (by omega), h1 k (by omega), f_rem_out (by omega) q8]
    refine ⟨fun k hk => ?_, by rw [o 168 (by omega)], fun j hj => ?_⟩
    · rcases hk with rfl | hk
      · rw [k1 0 (by omega) (by omega) (by omega) (by omega), h0]
      · exact o k (by omega)
    · rw [g_kp_row (by omega), x_p_row (by omega), x_r_ne2 (by omega)]
      unfold g_bg
      rw [x_r_ne2 (by omega), h1 175 (by omega), f_rem_out (by omega) q8]
  refine ⟨?_, ?_, y_N_G a3 kg hB, y_X_G a4 kg, y_L_G a5 kg, y_R_G a6 kg⟩
  · rw [k6]
    exact r_S_like hs (r_rows (fun k hk hk2 => k1 k (by omega) (by omega) (by omega) (by omega))) (fun _ _ => rfl) (Nat.le_refl _)
  · have m1 : ∀ k, 43 ≤ k → k ≤ 156 → g_kp (g_ok (g_bg d1) g) z2 k = f_rem d 1 q2 z2 k := fun k hk hk2 => by
      rw [k1 k (by omega) (by omega) (by omega) (by omega), h1 k (by omega)]
    have m8 : g_ok (g_bg d1) g 178 = d 178 := by
      rw [x_p_ne (by omega), x_r_ne2 (by omega)]
      unfold g_bg
      rw [x_r_ne2 (by omega), h1 178 (by omega), f_rem_out (by omega) q8]
    have m7 : ∀ k, k < 80 → g_ok (g_bg d1) g 177 k = d 176 k := fun k hk => by
      rw [x_p_ne (by omega), x_r_ne2 (by omega)]
      unfold g_bg
      rw [x_r_same, pk_cpy_in (by omega) (by omega), h1 176 (by omega), f_rem_out (by omega) q8]
      congr 1
      omega
    refine ⟨(q2 + 1) % 8, min (z2 + 1) 8, by rw [m1 43 (by omega) (by omega)]; exact (f_rem_43 q8).1, by omega, by rw [m1 43 (by omega) (by omega)]; exact (f_rem_43 q8).2, by omega, g_kp_3 z8, fun j hj => ?_⟩
    by_cases hl : j = min z2 7
    · have hslot : ((q2 + 1) % 8 + 8 - min (z2 + 1) 8 + j) % 8 = q2 := by omega
      rw [hslot]
      have hl1 : r_like d 1 (g_kp (g_ok (g_bg d1) g) z2) (45 + 14 * q2) := by
        have c := r_copy (d := d) (o := 45 + 14 * q2) (o2 := 1) (by omega)
        obtain ⟨c1, c2, c3, c4, c5⟩ := c
        have mm : ∀ k, 45 + 14 * q2 + 1 ≤ k → k ≤ 45 + 14 * q2 + 13 → g_kp (g_ok (g_bg d1) g) z2 k = f_cps d (45 + 14 * q2) 1 k := fun k hk hk2 => by
          rw [m1 k (by omega) (by omega), f_rem_in (by omega)]
        refine ⟨by rw [mm _ (by omega) (by omega)]; exact c1, by rw [mm _ (by omega) (by omega)]; exact c2, fun i hi => ?_, fun k hk => ?_, fun i hi => ?_⟩
        · rw [mm (45 + 14 * q2 + 2) (by omega) (by omega), mm (45 + 14 * q2 + 3) (by omega) (by omega), mm (45 + 14 * q2 + 4) (by omega) (by omega), mm (45 + 14 * q2 + 5) (by omega) (by omega), mm (45 + 14 * q2 + 6) (by omega) (by omega), mm (45 + 14 * q2 + 7) (by omega) (by omega), mm (45 + 14 * q2 + 8) (by omega) (by omega)]
          exact c3 i hi
        · rw [mm (45 + 14 * q2 + 10) (by omega) (by omega), mm (45 + 14 * q2 + 11) (by omega) (by omega), mm (45 + 14 * q2 + 12) (by omega) (by omega)]
          exact c4 k hk
        · rw [mm (45 + 14 * q2 + 13) (by omega) (by omega)]
          exact c5 i hi
      refine r_S_like a1 hl1 (fun k hk => ?_) hB
      rw [hl, (g_kp_178 (i := 0) z8 hk).2.2, m7 k hk]
    · have hold : ∃ i, i < z2 ∧ (q2 + 8 - z2 + i) % 8 = ((q2 + 1) % 8 + 8 - min (z2 + 1) 8 + j) % 8 ∧ ((z2 < 8 ∧ i = j) ∨ (z2 = 8 ∧ i = j + 1)) := by
        by_cases e : z2 = 8
        · exact ⟨j + 1, by omega, by omega, Or.inr ⟨e, rfl⟩⟩
        · exact ⟨j, by omega, by omega, Or.inl ⟨by omega, rfl⟩⟩
      obtain ⟨i, hi, hsl, hij⟩ := hold
      have hne : ((q2 + 1) % 8 + 8 - min (z2 + 1) 8 + j) % 8 ≠ q2 := by omega
      rw [← hsl] at hne ⊢
      refine r_S_like (e6 i hi) (r_rows (fun k hk hk2 => ?_)) (fun k hk => ?_) hB
      · have hs8 : (q2 + 8 - z2 + i) % 8 < 8 := Nat.mod_lt _ (by omega)
        rw [m1 k (by omega) (by omega), f_rem_in (by omega), f_cps_out (by omega)]
      · rcases hij with ⟨u1, u2⟩ | ⟨u1, u2⟩
        · subst u2
          rw [(g_kp_178 z8 hk).1 hi u1, m8]
        · subst u2
          rw [(g_kp_178 z8 hk).2.1 u1 (by omega), m8]
theorem y_op_12 {d : xd} {g : Nat → Int32} {w : Nat} : g_kp (g_ok d g) w 175 12 = 0 := by
  rw [g_kp_row (by omega)]
  exact x_p_at
/-- the state at 1 in the world that has it in the ring as well -/
theorem y_rem_like {d : xd} {q z : Nat} (q8 : q < 8) : r_like d 1 (f_rem d 1 q z) 1 := r_rows (fun _ _ hk2 => f_rem_out (by omega) q8)
theorem y_rem {B : Nat} {d : xd} {n w q z : Nat} {g : Nat → Int32} (h : r_T B d 1 g n w) (q8 : q < 8) : r_T B (f_rem d 1 q z) 1 g n w := r_T_like h (y_rem_like q8) (fun _ _ => rfl) (Nat.le_refl _)
