-- STAND-INS
theorem n : True := trivial
theorem i : True := trivial
theorem k : True := trivial
theorem q : True := trivial
theorem u : True := trivial
theorem v : True := trivial
theorem w : True := trivial
theorem j : True := trivial
theorem o : True := trivial
theorem a : True := trivial
theorem b : True := trivial
theorem y : True := trivial
theorem z : True := trivial
theorem r : True := trivial
theorem t : True := trivial
theorem f : True := trivial
theorem g : True := trivial
theorem o2 : True := trivial
theorem a2 : True := trivial
theorem hlt : True := trivial
theorem hltk : True := trivial
theorem hlt3 : True := trivial
theorem hlt4 : True := trivial
theorem hn : True := trivial
theorem hq : True := trivial
theorem hm : True := trivial
theorem hi : True := trivial
theorem hi2 : True := trivial
theorem hi3 : True := trivial
theorem hk : True := trivial
theorem hj : True := trivial
theorem hb : True := trivial
theorem hs : True := trivial
theorem hw : True := trivial
theorem hx : True := trivial
theorem hz : True := trivial
theorem hv : True := trivial
theorem hr : True := trivial
theorem hc : True := trivial
theorem hu : True := trivial
theorem hp : True := trivial
theorem hl : True := trivial
theorem hh : True := trivial
theorem e : True := trivial
theorem e9 : True := trivial
theorem sh : True := trivial
theorem a0 : True := trivial
theorem c9 : True := trivial
theorem k9 : True := trivial
theorem m9 : True := trivial
theorem mm : True := trivial
theorem ha : True := trivial
theorem ho : True := trivial
theorem hS : True := trivial
theorem ha0 : True := trivial
theorem hs9 : True := trivial
theorem hk0 : True := trivial
theorem hk1 : True := trivial
theorem hk9 : True := trivial
theorem hap : True := trivial
theorem hoo : True := trivial
theorem qh : True := trivial
theorem ex : True := trivial
theorem ih : True := trivial
theorem ihk : True := trivial
theorem ih1 : True := trivial
theorem ih2 : True := trivial
theorem ih3 : True := trivial
theorem ih4 : True := trivial
theorem ihj : True := trivial
theorem st : True := trivial
theorem lst : True := trivial
theorem args0 : True := trivial
theorem hcn : True := trivial
theorem hcir : True := trivial
theorem q8 : True := trivial
theorem z8 : True := trivial
theorem h0 : True := trivial
theorem h1 : True := trivial
theorem h2 : True := trivial
theorem h3 : True := trivial
theorem h4 : True := trivial
theorem h5 : True := trivial
theorem h7 : True := trivial
theorem h10 : True := trivial
theorem h11 : True := trivial
theorem h12 : True := trivial
theorem h13 : True := trivial
theorem h14 : True := trivial
theorem h15 : True := trivial
theorem h16 : True := trivial
theorem h17 : True := trivial
theorem h18 : True := trivial
theorem h19 : True := trivial
theorem h20 : True := trivial
theorem h21 : True := trivial
theorem h22 : True := trivial
theorem h23 : True := trivial
theorem h24 : True := trivial
theorem h25 : True := trivial
theorem h26 : True := trivial
theorem h27 : True := trivial
theorem h28 : True := trivial
theorem h29 : True := trivial
theorem h30 : True := trivial
theorem h31 : True := trivial
theorem h32 : True := trivial
theorem h33 : True := trivial
theorem h34 : True := trivial
theorem h35 : True := trivial
theorem h36 : True := trivial
theorem h37 : True := trivial
theorem h38 : True := trivial
theorem h39 : True := trivial
theorem h40 : True := trivial
theorem h41 : True := trivial
theorem h42 : True := trivial
theorem h43 : True := trivial
theorem h44 : True := trivial
theorem h45 : True := trivial
theorem h46 : True := trivial
theorem h47 : True := trivial
theorem h48 : True := trivial
theorem h49 : True := trivial
theorem h50 : True := trivial
theorem h51 : True := trivial
theorem h52 : True := trivial
theorem h53 : True := trivial
theorem h54 : True := trivial
theorem h55 : True := trivial
theorem h56 : True := trivial
theorem h57 : True := trivial
theorem h58 : True := trivial
theorem h59 : True := trivial
theorem h60 : True := trivial
theorem h61 : True := trivial
theorem h62 : True := trivial
theorem h63 : True := trivial
theorem h64 : True := trivial
theorem h65 : True := trivial
theorem h66 : True := trivial
theorem h67 : True := trivial
theorem h68 : True := trivial
theorem h69 : True := trivial
theorem h70 : True := trivial
theorem h71 : True := trivial
theorem h72 : True := trivial
theorem h73 : True := trivial
theorem h74 : True := trivial
theorem h75 : True := trivial
theorem h76 : True := trivial
theorem h77 : True := trivial
theorem h78 : True := trivial
theorem h79 : True := trivial
theorem h80 : True := trivial
theorem h81 : True := trivial
theorem h82 : True := trivial
theorem h83 : True := trivial
theorem h84 : True := trivial
theorem h85 : True := trivial
theorem h86 : True := trivial
theorem h87 : True := trivial
theorem h88 : True := trivial
theorem h89 : True := trivial
theorem h90 : True := trivial
theorem h91 : True := trivial
theorem h92 : True := trivial
theorem h93 : True := trivial
theorem h94 : True := trivial
theorem h95 : True := trivial
theorem h96 : True := trivial
theorem h97 : True := trivial
theorem h98 : True := trivial
theorem h99 : True := trivial
theorem h100 : True := trivial
theorem h101 : True := trivial
theorem h102 : True := trivial
theorem h103 : True := trivial
theorem h104 : True := trivial
theorem h105 : True := trivial
theorem h106 : True := trivial
theorem h107 : True := trivial
theorem h108 : True := trivial
theorem h109 : True := trivial
theorem h110 : True := trivial
theorem h111 : True := trivial
theorem h112 : True := trivial
theorem h113 : True := trivial
theorem h114 : True := trivial
theorem h115 : True := trivial
theorem h116 : True := trivial
theorem h117 : True := trivial
theorem h118 : True := trivial
theorem h119 : True := trivial
theorem h120 : True := trivial
theorem h121 : True := trivial
theorem h122 : True := trivial
theorem h123 : True := trivial
theorem h124 : True := trivial
theorem h125 : True := trivial
theorem h126 : True := trivial
theorem h127 : True := trivial
theorem h128 : True := trivial
theorem h129 : True := trivial
theorem h130 : True := trivial
theorem h131 : True := trivial
theorem h132 : True := trivial
theorem h133 : True := trivial
theorem h134 : True := trivial
theorem h135 : True := trivial
theorem h136 : True := trivial
theorem h137 : True := trivial
theorem h138 : True := trivial
theorem h139 : True := trivial
theorem h140 : True := trivial
theorem h141 : True := trivial
theorem h142 : True := trivial
theorem h143 : True := trivial
theorem h144 : True := trivial
theorem h145 : True := trivial
theorem h146 : True := trivial
theorem h147 : True := trivial
theorem h148 : True := trivial
theorem h149 : True := trivial
theorem h150 : True := trivial
theorem h151 : True := trivial
theorem h152 : True := trivial
theorem h153 : True := trivial
theorem h154 : True := trivial
theorem h155 : True := trivial
theorem h156 : True := trivial
theorem h157 : True := trivial
theorem h158 : True := trivial
theorem h159 : True := trivial
theorem h160 : True := trivial
theorem h161 : True := trivial
theorem h162 : True := trivial
theorem h163 : True := trivial
theorem h164 : True := trivial
theorem h165 : True := trivial
theorem h166 : True := trivial
theorem h167 : True := trivial
theorem h168 : True := trivial
theorem h169 : True := trivial
theorem h170 : True := trivial
theorem h171 : True := trivial
theorem h172 : True := trivial
theorem h173 : True := trivial
theorem h174 : True := trivial
theorem h175 : True := trivial
theorem h176 : True := trivial
theorem h177 : True := trivial
theorem h178 : True := trivial
theorem h179 : True := trivial
theorem h180 : True := trivial
theorem h181 : True := trivial
theorem h182 : True := trivial
theorem h183 : True := trivial
theorem h184 : True := trivial
theorem h185 : True := trivial
theorem h186 : True := trivial
theorem h187 : True := trivial
theorem h188 : True := trivial
theorem h189 : True := trivial
theorem h190 : True := trivial
theorem h191 : True := trivial
theorem h192 : True := trivial
theorem h193 : True := trivial
theorem h194 : True := trivial
theorem h195 : True := trivial
theorem h196 : True := trivial
theorem h197 : True := trivial
theorem h198 : True := trivial
theorem h199 : True := trivial
theorem L0 : True := trivial
theorem L1 : True := trivial
theorem L2 : True := trivial
theorem L3 : True := trivial
theorem L4 : True := trivial
theorem L5 : True := trivial
theorem L6 : True := trivial
theorem L7 : True := trivial
theorem L8 : True := trivial
theorem L9 : True := trivial
theorem L10 : True := trivial
theorem L11 : True := trivial
theorem L12 : True := trivial
theorem L13 : True := trivial
theorem L14 : True := trivial
theorem L15 : True := trivial
theorem L16 : True := trivial
theorem L17 : True := trivial
theorem L18 : True := trivial
theorem L19 : True := trivial
theorem L20 : True := trivial
theorem L21 : True := trivial
theorem L22 : True := trivial
theorem L23 : True := trivial
theorem L24 : True := trivial
theorem L25 : True := trivial
theorem L26 : True := trivial
theorem L27 : True := trivial
theorem L28 : True := trivial
theorem L29 : True := trivial
theorem L30 : True := trivial
theorem L31 : True := trivial
theorem L32 : True := trivial
theorem L33 : True := trivial
theorem L34 : True := trivial
theorem L35 : True := trivial
theorem L36 : True := trivial
theorem L37 : True := trivial
theorem L38 : True := trivial
theorem L39 : True := trivial
theorem L40 : True := trivial
theorem L41 : True := trivial
theorem L42 : True := trivial
theorem L43 : True := trivial
theorem L44 : True := trivial
theorem L45 : True := trivial
theorem L46 : True := trivial
theorem L47 : True := trivial
theorem L48 : True := trivial
theorem L49 : True := trivial
theorem L50 : True := trivial
theorem L51 : True := trivial
theorem L52 : True := trivial
theorem L53 : True := trivial
theorem L54 : True := trivial
theorem L55 : True := trivial
theorem L56 : True := trivial
theorem L57 : True := trivial
theorem L58 : True := trivial
theorem L59 : True := trivial
theorem L60 : True := trivial
theorem L61 : True := trivial
theorem L62 : True := trivial
theorem L63 : True := trivial
theorem L64 : True := trivial
theorem L65 : True := trivial
theorem L66 : True := trivial
theorem L67 : True := trivial
theorem L68 : True := trivial
theorem L69 : True := trivial
theorem L70 : True := trivial
theorem L71 : True := trivial
theorem L72 : True := trivial
theorem L73 : True := trivial
theorem L74 : True := trivial
theorem L75 : True := trivial
theorem L76 : True := trivial
theorem L77 : True := trivial
theorem L78 : True := trivial
theorem L79 : True := trivial
theorem L80 : True := trivial
theorem L81 : True := trivial
theorem L82 : True := trivial
theorem L83 : True := trivial
theorem L84 : True := trivial
theorem L85 : True := trivial
theorem L86 : True := trivial
theorem L87 : True := trivial
theorem L88 : True := trivial
theorem L89 : True := trivial
theorem L90 : True := trivial
theorem L91 : True := trivial
theorem L92 : True := trivial
theorem L93 : True := trivial
theorem L94 : True := trivial
theorem L95 : True := trivial
theorem L96 : True := trivial
theorem L97 : True := trivial
theorem L98 : True := trivial
theorem L99 : True := trivial
theorem L100 : True := trivial
theorem L101 : True := trivial
theorem L102 : True := trivial
theorem L103 : True := trivial
theorem L104 : True := trivial
theorem L105 : True := trivial
theorem L106 : True := trivial
theorem L107 : True := trivial
theorem L108 : True := trivial
theorem L109 : True := trivial
theorem L110 : True := trivial
theorem L111 : True := trivial
theorem L112 : True := trivial
theorem L113 : True := trivial
theorem L114 : True := trivial
theorem L115 : True := trivial
theorem L116 : True := trivial
theorem L117 : True := trivial
theorem L118 : True := trivial
theorem L119 : True := trivial
theorem L120 : True := trivial
theorem L121 : True := trivial
theorem L122 : True := trivial
theorem L123 : True := trivial
theorem L124 : True := trivial
theorem L125 : True := trivial
theorem L126 : True := trivial
theorem L127 : True := trivial
theorem L128 : True := trivial
theorem L129 : True := trivial
theorem L130 : True := trivial
theorem L131 : True := trivial
theorem L132 : True := trivial
theorem L133 : True := trivial
theorem L134 : True := trivial
theorem L135 : True := trivial
theorem L136 : True := trivial
theorem L137 : True := trivial
theorem L138 : True := trivial
theorem L139 : True := trivial
theorem L140 : True := trivial
theorem L141 : True := trivial
theorem L142 : True := trivial
theorem L143 : True := trivial
theorem L144 : True := trivial
theorem L145 : True := trivial
theorem L146 : True := trivial
theorem L147 : True := trivial
theorem L148 : True := trivial
theorem L149 : True := trivial
theorem L150 : True := trivial
theorem L151 : True := trivial
theorem L152 : True := trivial
theorem L153 : True := trivial
theorem L154 : True := trivial
theorem L155 : True := trivial
theorem L156 : True := trivial
theorem L157 : True := trivial
theorem L158 : True := trivial
theorem L159 : True := trivial
theorem L160 : True := trivial
theorem L161 : True := trivial
theorem L162 : True := trivial
theorem L163 : True := trivial
theorem L164 : True := trivial
theorem L165 : True := trivial
theorem L166 : True := trivial
theorem L167 : True := trivial
theorem L168 : True := trivial
theorem L169 : True := trivial
theorem L170 : True := trivial
theorem L171 : True := trivial
theorem L172 : True := trivial
theorem L173 : True := trivial
theorem L174 : True := trivial
theorem L175 : True := trivial
theorem L176 : True := trivial
theorem L177 : True := trivial
theorem L178 : True := trivial
theorem L179 : True := trivial
theorem L180 : True := trivial
theorem L181 : True := trivial
theorem L182 : True := trivial
theorem L183 : True := trivial
theorem L184 : True := trivial
theorem L185 : True := trivial
theorem L186 : True := trivial
theorem L187 : True := trivial
theorem L188 : True := trivial
theorem L189 : True := trivial
theorem L190 : True := trivial
theorem L191 : True := trivial
theorem L192 : True := trivial
theorem L193 : True := trivial
theorem L194 : True := trivial
theorem L195 : True := trivial
theorem L196 : True := trivial
theorem L197 : True := trivial
theorem L198 : True := trivial
theorem L199 : True := trivial
-- STAND-INS
/-! one command of a text: the class's refusalOf and perform, the model's carriesOut -/
def y_me (E : xd) (z : Nat → Int32) (v a b i : Nat) : Prop := E 176 = z ∧ E 182 (3 * i) = nI (tp_mc v) ∧ (1 ≤ tp_vn v → E 182 (3 * i + 1) = nI a) ∧ (2 ≤ tp_vn v → E 182 (3 * i + 2) = nI b)
def y_mok (l : Launch) (z z2 : Nat → Int32) (v a b i : Nat) : Prop := ∀ (G : xG) (E : xd), y_me E z v a b i → ∃ r : Int32, x_M G l yX12_carriesOut wsX12_carriesOut 6 0 0 [.ref (x_b G + 175), .int (nI (3 * i))] E (some (.int r)) (g_ok E z2)
def y_mbad (l : Launch) (z : Nat → Int32) (v a b i : Nat) : Prop := ∀ (G : xG) (E : xd), y_me E z v a b i → ∃ r x : Int32, ¬ x = 0 ∧ x_M G l yX12_carriesOut wsX12_carriesOut 6 0 0 [.ref (x_b G + 175), .int (nI (3 * i))] E (some (.int r)) (g_th E x)
def y_cok (l : Launch) (D D2 : xd) (v a b : Nat) : Prop := (∀ G : xG, x_M G l yX11_refusalOf wsX11_refusalOf 5 0 0 [.ref (x_b G + 0), .ref (x_e G 0 v), .int (nI a), .int (nI b)] D (some (.ref (x_e G 1 0))) D) ∧ (∀ G : xG, x_M G l yX11_perform wsX11_perform 6 0 0 [.ref (x_b G + 0), .ref (x_e G 0 v), .int (nI a), .int (nI b)] D none D2) ∧ y_fr D D2
def y_cbad (l : Launch) (D : xd) (v a b : Nat) : Prop := ∃ f9, f9 < 4 ∧ f9 ≠ 0 ∧ ∀ G : xG, x_M G l yX11_refusalOf wsX11_refusalOf 5 0 0 [.ref (x_b G + 0), .ref (x_e G 0 v), .int (nI a), .int (nI b)] D (some (.ref (x_e G 1 f9))) D
def y_cmd (l : Launch) (B : Nat) (D : xd) (z : Nat → Int32) (v a b i : Nat) : Prop := (∃ (D2 : xd) (z2 : Nat → Int32), y_cok l D D2 v a b ∧ r_S (B + 12) D2 1 z2 ∧ y_mok l z z2 v a b i) ∨ (y_cbad l D v a b ∧ y_mbad l z v a b i)
theorem g_ok_self {E : xd} {z : Nat → Int32} (h : E 176 = z) : g_ok E z = g_th E 0 := by
  have e : x_r E 176 z = E := by
    funext k
    by_cases hk : k = 176
    · subst hk
      rw [x_r_same, h]
    · rw [x_r_ne2 hk]
  show x_p (x_r E 176 z) 175 12 0 = _
  rw [e]
theorem o_nix {a i : Nat} (ha : a < 1000) {n : Nat} (hi : i < n) (h8 : n ≤ 8) (e : nI a = nI i) : a = i := (nI_eq (by omega) (by omega)).mp e
theorem o_nrg {a lo hi9 : Nat} (ha : a < 1000) (hh : hi9 < 1000) (hl : lo ≤ hi9) (h : nI lo ≤ nI a ∧ nI a ≤ nI hi9) : lo ≤ a ∧ a ≤ hi9 := ⟨(nI_leI (by omega) (by omega)).mp h.1, (nI_leI (by omega) (by omega)).mp h.2⟩
theorem k_0 {l : Launch} {B : Nat} {D : xd} {z : Nat → Int32} {n w : Nat} (t : r_T B D 1 z n w) (hB : B + 12 < 100000) {a b i9 : Nat} (ha : a < 1000) (hb : b < 1000) (hi9 : i9 < 59) : y_cmd l B D z 0 a b i9 := by
  obtain ⟨⟨hn, hn2, hw, hw2, e5, e6, e7⟩, ⟨h8, h6, v3, v4, v5⟩, -, -⟩ := id t
  rcases o_ra (nI a) (nI b) hn h8 with ⟨h0, hx, hy, hn8⟩ | ⟨h0, hx⟩ | ⟨h0, hx, hy, rfl⟩
  · obtain ⟨a1, a2⟩ := o_nrg (lo := 0) (hi9 := 3) ha (by decide) (by decide) hx
    obtain ⟨b1, b2⟩ := o_nrg (lo := 1) (hi9 := 9) hb (by decide) (by decide) hy
    refine Or.inl ⟨_, _, ⟨fun G => ?_, fun G => c_F_perform_0 l G D _ _ n hn hn8, fun k hk => by unfold f_app; rw [x_p_ne (by omega)]; rw [x_p_ne (by omega)]; rw [x_p_ne (by omega)]; rw [x_p_ne (by omega)]; rw [x_p_ne (by omega)]; rw [x_p_ne (by omega)]; rw [x_p_ne (by omega)]⟩, y_up (t_add t hn8 ⟨a, by omega, rfl⟩ ⟨b, b1, b2, rfl⟩) (by omega), fun G E ⟨m1, m2, m3, m4⟩ => ⟨_, c_M_carriesOut_0 l G E (3 * i9) (by omega) m2 _ _ (m3 (by decide +kernel)) (m4 (by decide +kernel)) _ _ (by rw [← m1]; exact c_M_adds l G E _ _ n hx hy (by rw [m1]; exact hn2) hn8)⟩⟩
    have hr := c_F_refusalOf_0 l G D (nI a) (nI b)
    rw [h0] at hr
    exact hr
  · refine Or.inr ⟨⟨2, by decide, by decide, fun G => ?_⟩, fun G E ⟨m1, m2, m3, m4⟩ => ⟨_, 1, by decide, c_M_carriesOut_0 l G E (3 * i9) (by omega) m2 _ _ (m3 (by decide +kernel)) (m4 (by decide +kernel)) _ _ (by exact c_M_adds_1 l G E _ _ hx)⟩⟩
    have hr := c_F_refusalOf_0 l G D (nI a) (nI b)
    rw [h0] at hr
    exact hr
  · refine Or.inr ⟨⟨3, by decide, by decide, fun G => ?_⟩, fun G E ⟨m1, m2, m3, m4⟩ => ⟨_, 2, by decide, c_M_carriesOut_0 l G E (3 * i9) (by omega) m2 _ _ (m3 (by decide +kernel)) (m4 (by decide +kernel)) _ _ (by exact c_M_adds_2 l G E _ _ hx hy (by rw [m1]; exact hn2))⟩⟩
    have hr := c_F_refusalOf_0 l G D (nI a) (nI b)
    rw [h0] at hr
    exact hr
theorem k_1 {l : Launch} {B : Nat} {D : xd} {z : Nat → Int32} {n w : Nat} (t : r_T B D 1 z n w) (hB : B + 12 < 100000) {a b i9 : Nat} (ha : a < 1000) (hb : b < 1000) (hi9 : i9 < 59) : y_cmd l B D z 1 a b i9 := by
  obtain ⟨⟨hn, hn2, hw, hw2, e5, e6, e7⟩, ⟨h8, h6, v3, v4, v5⟩, -, -⟩ := id t
  rcases o_rd (nI a) hn h8 with ⟨h0, i, hi, he, hp⟩ | ⟨h0, hx⟩ | ⟨h0, i, hi, he, hp⟩
  · obtain rfl := o_nix ha hi h8 he
    obtain ⟨u, hu, hvu⟩ := v5
    obtain ⟨-, -, -, -, q, hq, hvq⟩ := v3 a hi
    have hvu : D 14 1 = nI u := hvu
    have hvq : D 8 a = nI q := hvq
    have hab : u + q ≤ 99 := by
      rw [hvu, hvq, nI_add] at hp
      exact (nI_leI (by omega) (by decide)).mp hp
    obtain ⟨n, rfl⟩ : ∃ j, n = j + 1 := ⟨n - 1, by omega⟩
    have hp2 : ¬ 99 < z 4 + z (46 + a) := by
      rw [← (e5 a hi).2.2.2.2.2.1, ← e7.2.2.1]
      exact k2_nlt hp
    refine Or.inl ⟨_, _, ⟨fun G => ?_, fun G => c_F_perform_1 l G D _ a (n + 1) hn h8 hi w hw h6, fun k hk => by rw [f_drop_out (by omega) (by omega), f_dw_out (by omega)]⟩, y_up (t_drop t hi ⟨u + q, hab, (congr (congrArg HAdd.hAdd hvu) hvq).trans (nI_add u q)⟩ (by omega)) (by omega), fun G E ⟨m1, m2, m3, m4⟩ => ⟨_, c_M_carriesOut_1 l G E (3 * i9) (by omega) m2 _ _ (m3 (by decide +kernel)) rfl _ _ (by rw [← m1]; exact c_M_removes l G E a (n + 1) (by rw [m1]; exact hn2) h8 hi w (by rw [m1]; exact hw2) h6 (by rw [m1]; exact hp2))⟩⟩
    have hr := c_F_refusalOf_1 l G D (nI a) (nI b) (n + 1) hn h8
    rw [h0] at hr
    exact hr
  · refine Or.inr ⟨⟨1, by decide, by decide, fun G => ?_⟩, fun G E ⟨m1, m2, m3, m4⟩ => ⟨_, 1, by decide, c_M_carriesOut_1 l G E (3 * i9) (by omega) m2 _ _ (m3 (by decide +kernel)) rfl _ _ (by exact c_M_removes_1 l G E _ n (by rw [m1]; exact hn2) h8 hx)⟩⟩
    have hr := c_F_refusalOf_1 l G D (nI a) (nI b) n hn h8
    rw [h0] at hr
    exact hr
  · obtain rfl := o_nix ha hi h8 he
    have hp2 : 99 < z 4 + z (46 + a) := by
      rw [← (e5 a hi).2.2.2.2.2.1, ← e7.2.2.1]
      exact k2_lt hp
    refine Or.inr ⟨⟨3, by decide, by decide, fun G => ?_⟩, fun G E ⟨m1, m2, m3, m4⟩ => ⟨_, 2, by decide, c_M_carriesOut_1 l G E (3 * i9) (by omega) m2 _ _ (m3 (by decide +kernel)) rfl _ _ (by exact c_M_removes_2 l G E a n (by rw [m1]; exact hn2) h8 hi (by rw [m1]; exact hp2))⟩⟩
    have hr := c_F_refusalOf_1 l G D (nI a) (nI b) n hn h8
    rw [h0] at hr
    exact hr
theorem k_2 {l : Launch} {B : Nat} {D : xd} {z : Nat → Int32} {n w : Nat} (t : r_T B D 1 z n w) (hB : B + 12 < 100000) {a b i9 : Nat} (ha : a < 1000) (hb : b < 1000) (hi9 : i9 < 59) : y_cmd l B D z 2 a b i9 := by
  obtain ⟨⟨hn, hn2, hw, hw2, e5, e6, e7⟩, ⟨h8, h6, v3, v4, v5⟩, -, -⟩ := id t
  rcases o_rdel (nI a) hn h8 with ⟨h0, hx, h1⟩ | ⟨h0, hx⟩ | ⟨h0, hx, rfl⟩
  · obtain ⟨a1, a2⟩ := o_nrg (lo := 1) (hi9 := 200) ha (by decide) (by decide) hx
    obtain ⟨sh, s1, s2, s3⟩ := r_sh t.2.1
    have s4 : ∀ j, j < n → z (14 + j) = nI (sh j) := fun j hj => (e5 j hj).2.1.symm.trans (s1 j hj)
    refine Or.inl ⟨_, _, ⟨fun G => ?_, fun G => c_F_perform_2 l G D _ n hn h8 a sh s1 s2 (s3 h1) (by omega), fun k hk => by rw [f_pour_out (by omega) (by omega) (by omega)]⟩, y_up ((t_pour (a := 159) t (by omega) s1 s2 (s3 h1) (by omega)).1) (by omega), fun G E ⟨m1, m2, m3, m4⟩ => ⟨_, c_M_carriesOut_2 l G E (3 * i9) (by omega) m2 _ _ (m3 (by decide +kernel)) rfl _ _ (by rw [← m1]; exact c_M_delivers l G E a sh n (by rw [m1]; exact hn2) h8 h1 (fun j hj => by rw [m1]; exact s4 j hj) s2 (s3 h1) (by omega) hx)⟩⟩
    have hr := c_F_refusalOf_2 l G D (nI a) (nI b)
    rw [h0] at hr
    exact hr
  · refine Or.inr ⟨⟨2, by decide, by decide, fun G => ?_⟩, fun G E ⟨m1, m2, m3, m4⟩ => ⟨_, 1, by decide, c_M_carriesOut_2 l G E (3 * i9) (by omega) m2 _ _ (m3 (by decide +kernel)) rfl _ _ (by exact c_M_delivers_1 l G E _ hx)⟩⟩
    have hr := c_F_refusalOf_2 l G D (nI a) (nI b)
    rw [h0] at hr
    exact hr
  · refine Or.inr ⟨⟨3, by decide, by decide, fun G => ?_⟩, fun G E ⟨m1, m2, m3, m4⟩ => ⟨_, 2, by decide, c_M_carriesOut_2 l G E (3 * i9) (by omega) m2 _ _ (m3 (by decide +kernel)) rfl _ _ (by exact c_M_delivers_2 l G E _ hx (by rw [m1]; exact hn2))⟩⟩
    have hr := c_F_refusalOf_2 l G D (nI a) (nI b)
    rw [h0] at hr
    exact hr
theorem k_3 {l : Launch} {B : Nat} {D : xd} {z : Nat → Int32} {n w : Nat} (t : r_T B D 1 z n w) (hB : B + 12 < 100000) {a b i9 : Nat} (ha : a < 1000) (hb : b < 1000) (hi9 : i9 < 59) : y_cmd l B D z 3 a b i9 := by
  obtain ⟨⟨hn, hn2, hw, hw2, e5, e6, e7⟩, ⟨h8, h6, v3, v4, v5⟩, -, -⟩ := id t
  obtain ⟨u, hu, hvu⟩ := v5
  have hvu : D 14 1 = nI u := hvu
  rcases o_rdon (d := D) (nI a) with ⟨h0, hx, hp⟩ | ⟨h0, hx⟩ | ⟨h0, hx, hp⟩
  · have hab : u + a ≤ 99 := by
      rw [hvu, nI_add] at hp
      exact (nI_leI (by omega) (by decide)).mp hp
    refine Or.inl ⟨_, _, ⟨fun G => ?_, fun G => c_F_perform_3 l G D _ _, fun k hk => by unfold f_don; rw [x_p_ne (by omega)]; rw [x_p_ne (by omega)]⟩, y_up (t_don t ⟨u, hab, hvu⟩) (by omega), fun G E ⟨m1, m2, m3, m4⟩ => ⟨_, c_M_carriesOut_3 l G E (3 * i9) (by omega) m2 _ _ (m3 (by decide +kernel)) rfl _ _ (by rw [← m1]; exact c_M_donates l G E _ hx (by rw [m1, ← e7.2.2.1]; exact hp))⟩⟩
    have hr := c_F_refusalOf_3 l G D (nI a) (nI b)
    rw [h0] at hr
    exact hr
  · refine Or.inr ⟨⟨2, by decide, by decide, fun G => ?_⟩, fun G E ⟨m1, m2, m3, m4⟩ => ⟨_, 1, by decide, c_M_carriesOut_3 l G E (3 * i9) (by omega) m2 _ _ (m3 (by decide +kernel)) rfl _ _ (by exact c_M_donates_1 l G E _ hx)⟩⟩
    have hr := c_F_refusalOf_3 l G D (nI a) (nI b)
    rw [h0] at hr
    exact hr
  · refine Or.inr ⟨⟨3, by decide, by decide, fun G => ?_⟩, fun G E ⟨m1, m2, m3, m4⟩ => ⟨_, 2, by decide, c_M_carriesOut_3 l G E (3 * i9) (by omega) m2 _ _ (m3 (by decide +kernel)) rfl _ _ (by exact c_M_donates_2 l G E _ hx (by rw [m1, ← e7.2.2.1]; exact hp))⟩⟩
    have hr := c_F_refusalOf_3 l G D (nI a) (nI b)
    rw [h0] at hr
    exact hr
theorem k_4 {l : Launch} {B : Nat} {D : xd} {z : Nat → Int32} {n w : Nat} (t : r_T B D 1 z n w) (hB : B + 12 < 100000) {a b i9 : Nat} (ha : a < 1000) (hb : b < 1000) (hi9 : i9 < 59) : y_cmd l B D z 4 a b i9 := by
  obtain ⟨⟨hn, hn2, hw, hw2, e5, e6, e7⟩, ⟨h8, h6, v3, v4, v5⟩, -, -⟩ := id t
  obtain ⟨u, hu, hvu⟩ := v5
  have hvu : D 14 1 = nI u := hvu
  have hvu2 : z 4 = nI u := e7.2.2.1.symm.trans hvu
  rcases o_rgive (nI a) (nI b) hn h8 with ⟨h0, i, hi, he, hy, hp1, hp2⟩ | ⟨h0, hx⟩ | ⟨h0, ⟨i, hi, he⟩, hy⟩ | ⟨h0, i, hi, he, hy, hp⟩
  · obtain rfl := o_nix ha hi h8 he
    obtain ⟨b1, b2⟩ := o_nrg (lo := 1) (hi9 := 9) hb (by decide) (by decide) hy
    obtain ⟨-, -, -, -, q, hq, hvq⟩ := v3 a hi
    have hvq : D 8 a = nI q := hvq
    have hvq2 : z (46 + a) = nI q := (e5 a hi).2.2.2.2.2.1.symm.trans hvq
    have h1 : b ≤ u := by
      rw [hvu] at hp1
      rcases Nat.lt_or_ge u b with y | y
      · exact absurd (nI_lt y (by omega)) hp1
      · exact y
    have h2 : q + b ≤ 9 := by
      rw [hvq, nI_add] at hp2
      rcases Nat.lt_or_ge 9 (q + b) with y | y
      · exact absurd (nI_lt y (by omega)) hp2
      · exact y
    have g1 : z (46 + a) + 1 * nI b = nI (q + b) := by rw [hvq2, Int32.one_mul, nI_add]
    have g2 : z 4 - 1 * nI b = nI (u - b) := by rw [hvu2, Int32.one_mul, pk_sub h1]
    have g3 : upd (upd z (46 + a) (z (46 + a) + nI b)) 4 (z 4 - nI b) = upd (upd z (46 + a) (z (46 + a) + 1 * nI b)) 4 (z 4 - 1 * nI b) := by rw [Int32.one_mul]
    refine Or.inl ⟨_, _, ⟨fun G => ?_, fun G => c_F_perform_4 l G D _ a n hn h8 hi, fun k hk => by unfold f_mvw; rw [x_p_ne (by omega)]; rw [x_p_ne (by omega)]⟩, y_up (t_mvw t hi ⟨q + b, h2, by show D 8 a + _ = _; rw [hvq, nI_add]⟩ ⟨u - b, by omega, by show D 14 1 - _ = _; rw [hvu, pk_sub h1]⟩) (by omega), fun G E ⟨m1, m2, m3, m4⟩ => ⟨_, c_M_carriesOut_4 l G E (3 * i9) (by omega) m2 _ _ (m3 (by decide +kernel)) (m4 (by decide +kernel)) _ _ (by rw [g3, ← m1]; exact c_M_movesWick l G E _ 1 a n (by rw [m1]; exact hn2) h8 hi hy (by rw [m1, g1]; exact ⟨nI_pos' (by omega), (nI_leI (b := 9) (by omega) (by decide)).mpr h2⟩) (by rw [m1, g2]; exact ⟨nI_pos' (by omega), (nI_leI (b := 99) (by omega) (by decide)).mpr (by omega)⟩))⟩⟩
    have hr := c_F_refusalOf_4 l G D (nI a) (nI b) n hn h8
    rw [h0] at hr
    exact hr
  · refine Or.inr ⟨⟨1, by decide, by decide, fun G => ?_⟩, fun G E ⟨m1, m2, m3, m4⟩ => ⟨_, 1, by decide, c_M_carriesOut_4 l G E (3 * i9) (by omega) m2 _ _ (m3 (by decide +kernel)) (m4 (by decide +kernel)) _ _ (by exact c_M_movesWick_1 l G E _ 1 _ n (by rw [m1]; exact hn2) h8 hx)⟩⟩
    have hr := c_F_refusalOf_4 l G D (nI a) (nI b) n hn h8
    rw [h0] at hr
    exact hr
  · obtain rfl := o_nix ha hi h8 he
    refine Or.inr ⟨⟨2, by decide, by decide, fun G => ?_⟩, fun G E ⟨m1, m2, m3, m4⟩ => ⟨_, 2, by decide, c_M_carriesOut_4 l G E (3 * i9) (by omega) m2 _ _ (m3 (by decide +kernel)) (m4 (by decide +kernel)) _ _ (by exact c_M_movesWick_2 l G E _ 1 a n (by rw [m1]; exact hn2) h8 hi hy)⟩⟩
    have hr := c_F_refusalOf_4 l G D (nI a) (nI b) n hn h8
    rw [h0] at hr
    exact hr
  · obtain rfl := o_nix ha hi h8 he
    obtain ⟨b1, b2⟩ := o_nrg (lo := 1) (hi9 := 9) hb (by decide) (by decide) hy
    obtain ⟨-, -, -, -, q, hq, hvq⟩ := v3 a hi
    have hvq : D 8 a = nI q := hvq
    have hvq2 : z (46 + a) = nI q := (e5 a hi).2.2.2.2.2.1.symm.trans hvq
    have hno : ¬ ((0 ≤ z (46 + a) + 1 * nI b ∧ z (46 + a) + 1 * nI b ≤ 9) ∧ (0 ≤ z 4 - 1 * nI b ∧ z 4 - 1 * nI b ≤ 99)) := by
      rw [hvq2, hvu2, Int32.one_mul, nI_add]
      intro y
      rcases hp with hp | hp
      · rw [hvu] at hp
        have hlt : u < b := (nI_ltI (by omega) (by omega)).mp hp
        exact absurd y.2.1 (k2_nle (pk_sneg (by omega) hlt))
      · rw [hvq, nI_add] at hp
        exact absurd y.1.2 (k2_nle hp)
    refine Or.inr ⟨⟨3, by decide, by decide, fun G => ?_⟩, fun G E ⟨m1, m2, m3, m4⟩ => ⟨_, 3, by decide, c_M_carriesOut_4 l G E (3 * i9) (by omega) m2 _ _ (m3 (by decide +kernel)) (m4 (by decide +kernel)) _ _ (by exact c_M_movesWick_3 l G E _ 1 a n (by rw [m1]; exact hn2) h8 hi hy (by rw [m1]; exact hno))⟩⟩
    have hr := c_F_refusalOf_4 l G D (nI a) (nI b) n hn h8
    rw [h0] at hr
    exact hr
theorem k_5 {l : Launch} {B : Nat} {D : xd} {z : Nat → Int32} {n w : Nat} (t : r_T B D 1 z n w) (hB : B + 12 < 100000) {a b i9 : Nat} (ha : a < 1000) (hb : b < 1000) (hi9 : i9 < 59) : y_cmd l B D z 5 a b i9 := by
  obtain ⟨⟨hn, hn2, hw, hw2, e5, e6, e7⟩, ⟨h8, h6, v3, v4, v5⟩, -, -⟩ := id t
  rcases o_rl (nI a) (nI b) 5 hn h8 with ⟨h0, ⟨i, hi, he⟩, hy⟩ | ⟨h0, hx⟩ | ⟨h0, ⟨i, hi, he⟩, hy⟩
  · obtain rfl := o_nix ha hi h8 he
    obtain ⟨b1, b2⟩ := o_nrg (lo := 1) (hi9 := 5) hb (by decide) (by decide) hy
    refine Or.inl ⟨_, _, ⟨fun G => ?_, fun G => c_F_perform_5 l G D _ a n hn h8 hi, fun k hk => by rw [x_p_ne (by omega)]⟩, y_up (t_set4 t hi ⟨b, b1, b2, rfl⟩) (by omega), fun G E ⟨m1, m2, m3, m4⟩ => ⟨_, c_M_carriesOut_5 l G E (3 * i9) (by omega) m2 _ _ (m3 (by decide +kernel)) (m4 (by decide +kernel)) _ _ (by rw [← m1]; exact c_M_sets l G E 22 (by omega) _ 5 a n (by rw [m1]; exact hn2) h8 hi hy)⟩⟩
    have hr := c_F_refusalOf_5 l G D (nI a) (nI b)
    rw [h0] at hr
    exact hr
  · refine Or.inr ⟨⟨1, by decide, by decide, fun G => ?_⟩, fun G E ⟨m1, m2, m3, m4⟩ => ⟨_, 1, by decide, c_M_carriesOut_5 l G E (3 * i9) (by omega) m2 _ _ (m3 (by decide +kernel)) (m4 (by decide +kernel)) _ _ (by exact c_M_sets_1 l G E 22 _ 5 _ n (by rw [m1]; exact hn2) h8 hx)⟩⟩
    have hr := c_F_refusalOf_5 l G D (nI a) (nI b)
    rw [h0] at hr
    exact hr
  · obtain rfl := o_nix ha hi h8 he
    refine Or.inr ⟨⟨2, by decide, by decide, fun G => ?_⟩, fun G E ⟨m1, m2, m3, m4⟩ => ⟨_, 2, by decide, c_M_carriesOut_5 l G E (3 * i9) (by omega) m2 _ _ (m3 (by decide +kernel)) (m4 (by decide +kernel)) _ _ (by exact c_M_sets_2 l G E 22 _ 5 a n (by rw [m1]; exact hn2) h8 hi hy)⟩⟩
    have hr := c_F_refusalOf_5 l G D (nI a) (nI b)
    rw [h0] at hr
    exact hr
theorem k_6 {l : Launch} {B : Nat} {D : xd} {z : Nat → Int32} {n w : Nat} (t : r_T B D 1 z n w) (hB : B + 12 < 100000) {a b i9 : Nat} (ha : a < 1000) (hb : b < 1000) (hi9 : i9 < 59) : y_cmd l B D z 6 a b i9 := by
  obtain ⟨⟨hn, hn2, hw, hw2, e5, e6, e7⟩, ⟨h8, h6, v3, v4, v5⟩, -, -⟩ := id t
  have hsw : f_rsw D (nI a) = if 0 ≤ nI a ∧ nI a < nI n then 0 else 1 := by
    unfold f_rsw
    rw [hn]
    by_cases hx : 0 ≤ nI a ∧ nI a < nI n
    · rw [if_neg (by rw [o_bi0]; exact fun y => y hx), if_pos hx]
    · rw [if_pos (by rw [o_bi0]; exact hx), if_neg hx]
  by_cases hx : 0 ≤ nI a ∧ nI a < nI n
  · have h0 : f_rsw D (nI a) = 0 := by rw [hsw, if_pos hx]
    obtain ⟨i, hi, he⟩ := o_ix (by omega) hx
    obtain rfl := o_nix ha hi h8 he
    refine Or.inl ⟨_, _, ⟨fun G => ?_, fun G => c_F_perform_6 l G D _ a n hn h8 hi, fun k hk => by rw [x_p_ne (by omega)]⟩, y_up (t_on t hi) (by omega), fun G E ⟨m1, m2, m3, m4⟩ => ⟨_, c_M_carriesOut_6 l G E (3 * i9) (by omega) m2 _ _ (m3 (by decide +kernel)) rfl _ _ (by rw [← m1]; exact c_M_switches l G E 0 a n (by rw [m1]; exact hn2) h8 hi)⟩⟩
    have hr := c_F_refusalOf_6 l G D (nI a) (nI b)
    rw [h0] at hr
    exact hr
  · have h0 : f_rsw D (nI a) = 1 := by rw [hsw, if_neg hx]
    refine Or.inr ⟨⟨1, by decide, by decide, fun G => ?_⟩, fun G E ⟨m1, m2, m3, m4⟩ => ⟨_, 1, by decide, c_M_carriesOut_6 l G E (3 * i9) (by omega) m2 _ _ (m3 (by decide +kernel)) rfl _ _ (by exact c_M_switches_1 l G E 0 _ n (by rw [m1]; exact hn2) h8 hx)⟩⟩
    have hr := c_F_refusalOf_6 l G D (nI a) (nI b)
    rw [h0] at hr
    exact hr
theorem k_7 {l : Launch} {B : Nat} {D : xd} {z : Nat → Int32} {n w : Nat} (t : r_T B D 1 z n w) (hB : B + 12 < 100000) {a b i9 : Nat} (ha : a < 1000) (hb : b < 1000) (hi9 : i9 < 59) : y_cmd l B D z 7 a b i9 := by
  obtain ⟨⟨hn, hn2, hw, hw2, e5, e6, e7⟩, ⟨h8, h6, v3, v4, v5⟩, -, -⟩ := id t
  have hsw : f_rsw D (nI a) = if 0 ≤ nI a ∧ nI a < nI n then 0 else 1 := by
    unfold f_rsw
    rw [hn]
    by_cases hx : 0 ≤ nI a ∧ nI a < nI n
    · rw [if_neg (by rw [o_bi0]; exact fun y => y hx), if_pos hx]
    · rw [if_pos (by rw [o_bi0]; exact hx), if_neg hx]
  by_cases hx : 0 ≤ nI a ∧ nI a < nI n
  · have h0 : f_rsw D (nI a) = 0 := by rw [hsw, if_pos hx]
    obtain ⟨i, hi, he⟩ := o_ix (by omega) hx
    obtain rfl := o_nix ha hi h8 he
    refine Or.inl ⟨_, _, ⟨fun G => ?_, fun G => c_F_perform_7 l G D _ a n hn h8 hi, fun k hk => by rw [x_p_ne (by omega)]⟩, y_up (t_off t hi) (by omega), fun G E ⟨m1, m2, m3, m4⟩ => ⟨_, c_M_carriesOut_7 l G E (3 * i9) (by omega) m2 _ _ (m3 (by decide +kernel)) rfl _ _ (by rw [← m1]; exact c_M_switches l G E 1 a n (by rw [m1]; exact hn2) h8 hi)⟩⟩
    have hr := c_F_refusalOf_7 l G D (nI a) (nI b)
    rw [h0] at hr
    exact hr
  · have h0 : f_rsw D (nI a) = 1 := by rw [hsw, if_neg hx]
    refine Or.inr ⟨⟨1, by decide, by decide, fun G => ?_⟩, fun G E ⟨m1, m2, m3, m4⟩ => ⟨_, 1, by decide, c_M_carriesOut_7 l G E (3 * i9) (by omega) m2 _ _ (m3 (by decide +kernel)) rfl _ _ (by exact c_M_switches_1 l G E 1 _ n (by rw [m1]; exact hn2) h8 hx)⟩⟩
    have hr := c_F_refusalOf_7 l G D (nI a) (nI b)
    rw [h0] at hr
    exact hr
theorem k_8 {l : Launch} {B : Nat} {D : xd} {z : Nat → Int32} {n w : Nat} (t : r_T B D 1 z n w) (hB : B + 12 < 100000) {a b i9 : Nat} (ha : a < 1000) (hb : b < 1000) (hi9 : i9 < 59) : y_cmd l B D z 8 a b i9 := by
  obtain ⟨⟨hn, hn2, hw, hw2, e5, e6, e7⟩, ⟨h8, h6, v3, v4, v5⟩, -, -⟩ := id t
  rcases o_ram (nI a) hn h8 hw h6 with ⟨h0, ⟨i, hi, he⟩, hw6⟩ | ⟨h0, hx⟩ | ⟨h0, ⟨i, hi, he⟩, rfl⟩
  · obtain rfl := o_nix ha hi h8 he
    refine Or.inl ⟨_, _, ⟨fun G => ?_, fun G => c_F_perform_8 l G D _ _ w hw hw6, fun k hk => by unfold f_appm; rw [x_p_ne (by omega)]; rw [x_p_ne (by omega)]; rw [x_p_ne (by omega)]; rw [x_p_ne (by omega)]⟩, y_up (t_adm t hi hw6) (by omega), fun G E ⟨m1, m2, m3, m4⟩ => ⟨_, c_M_carriesOut_8 l G E (3 * i9) (by omega) m2 _ _ (m3 (by decide +kernel)) rfl _ _ (by rw [← m1]; exact c_M_addsMoth l G E a n (by rw [m1]; exact hn2) h8 hi w (by rw [m1]; exact hw2) hw6)⟩⟩
    have hr := c_F_refusalOf_8 l G D (nI a) (nI b)
    rw [h0] at hr
    exact hr
  · refine Or.inr ⟨⟨1, by decide, by decide, fun G => ?_⟩, fun G E ⟨m1, m2, m3, m4⟩ => ⟨_, 1, by decide, c_M_carriesOut_8 l G E (3 * i9) (by omega) m2 _ _ (m3 (by decide +kernel)) rfl _ _ (by exact c_M_addsMoth_1 l G E _ n (by rw [m1]; exact hn2) h8 hx)⟩⟩
    have hr := c_F_refusalOf_8 l G D (nI a) (nI b)
    rw [h0] at hr
    exact hr
  · obtain rfl := o_nix ha hi h8 he
    refine Or.inr ⟨⟨3, by decide, by decide, fun G => ?_⟩, fun G E ⟨m1, m2, m3, m4⟩ => ⟨_, 2, by decide, c_M_carriesOut_8 l G E (3 * i9) (by omega) m2 _ _ (m3 (by decide +kernel)) rfl _ _ (by exact c_M_addsMoth_2 l G E a n (by rw [m1]; exact hn2) h8 hi (by rw [m1]; exact hw2))⟩⟩
    have hr := c_F_refusalOf_8 l G D (nI a) (nI b)
    rw [h0] at hr
    exact hr
theorem k_9 {l : Launch} {B : Nat} {D : xd} {z : Nat → Int32} {n w : Nat} (t : r_T B D 1 z n w) (hB : B + 12 < 100000) {a b i9 : Nat} (ha : a < 1000) (hb : b < 1000) (hi9 : i9 < 59) : y_cmd l B D z 9 a b i9 := by
  obtain ⟨⟨hn, hn2, hw, hw2, e5, e6, e7⟩, ⟨h8, h6, v3, v4, v5⟩, -, -⟩ := id t
  have hwc := o_wc (x := nI a) t
  rcases o_rpro (nI a) hn h8 with ⟨h0, hx, h1⟩ | ⟨h0, hx⟩ | ⟨h0, hx, rfl⟩
  · obtain ⟨a1, a2⟩ := o_nrg (lo := 1) (hi9 := 5) ha (by decide) (by decide) hx
    by_cases hy : g_car z n (nI a) = true
    · refine Or.inl ⟨_, _, ⟨fun G => ?_, fun G => c_F_perform_9y l G D _ _ n hn h8 (hwc.trans hy), fun k hk => by rw [x_r_ne2 (by omega)]⟩, y_up (t_cap t ⟨a1, a2⟩) (by omega), fun G E ⟨m1, m2, m3, m4⟩ => ⟨_, c_M_carriesOut_9 l G E (3 * i9) (by omega) m2 _ _ (m3 (by decide +kernel)) rfl _ _ (by rw [← m1]; exact c_M_proposes l G E _ hx n (by rw [m1]; exact hn2) h8 h1 (by rw [m1]; exact hy))⟩⟩
      have hr := c_F_refusalOf_9 l G D (nI a) (nI b)
      rw [h0] at hr
      exact hr
    · refine Or.inl ⟨D, z, ⟨fun G => ?_, fun G => c_F_perform_9n l G D _ _ n hn h8 (by rw [hwc]; exact hy), fun k hk => by rfl⟩, y_up (t) (by omega), fun G E ⟨m1, m2, m3, m4⟩ => ⟨_, c_M_carriesOut_9 l G E (3 * i9) (by omega) m2 _ _ (m3 (by decide +kernel)) rfl _ _ (by rw [g_ok_self m1]; exact c_M_proposes_n l G E _ hx n (by rw [m1]; exact hn2) h8 h1 (by rw [m1]; exact hy))⟩⟩
      have hr := c_F_refusalOf_9 l G D (nI a) (nI b)
      rw [h0] at hr
      exact hr
  · refine Or.inr ⟨⟨2, by decide, by decide, fun G => ?_⟩, fun G E ⟨m1, m2, m3, m4⟩ => ⟨_, 1, by decide, c_M_carriesOut_9 l G E (3 * i9) (by omega) m2 _ _ (m3 (by decide +kernel)) rfl _ _ (by exact c_M_proposes_1 l G E _ hx)⟩⟩
    have hr := c_F_refusalOf_9 l G D (nI a) (nI b)
    rw [h0] at hr
    exact hr
  · refine Or.inr ⟨⟨3, by decide, by decide, fun G => ?_⟩, fun G E ⟨m1, m2, m3, m4⟩ => ⟨_, 2, by decide, c_M_carriesOut_9 l G E (3 * i9) (by omega) m2 _ _ (m3 (by decide +kernel)) rfl _ _ (by exact c_M_proposes_2 l G E _ hx (by rw [m1]; exact hn2))⟩⟩
    have hr := c_F_refusalOf_9 l G D (nI a) (nI b)
    rw [h0] at hr
    exact hr
theorem k_10 {l : Launch} {B : Nat} {D : xd} {z : Nat → Int32} {n w : Nat} (t : r_T B D 1 z n w) (hB : B + 12 < 100000) {a b i9 : Nat} (ha : a < 1000) (hb : b < 1000) (hi9 : i9 < 59) : y_cmd l B D z 10 a b i9 := by
  obtain ⟨⟨hn, hn2, hw, hw2, e5, e6, e7⟩, ⟨h8, h6, v3, v4, v5⟩, -, -⟩ := id t
  obtain ⟨⟨w2, tn⟩, -⟩ := t_night t (by omega) (by omega)
  have hcr : ∀ k, k < w → z (62 + k) - 1 = -1 ∨ ∃ j, j < n ∧ z (62 + k) - 1 = nI j := fun k hk => by
    rw [← (e6 k hk).1]
    exact (v4 k hk).1
  refine Or.inl ⟨f_night D 1 n w, g_ngt z n w, ⟨fun G => c_F_refusalOf_10 l G D (nI a) (nI b), fun G => c_F_perform_10 l G D _ _ n hn h8 w hw h6, fun k hk => by
    unfold f_night f_n3
    rw [x_p_ne (by omega), f_ps_out (by omega), f_dis_out (by omega), f_ma_out (by omega) (by omega) (by omega) (by omega), f_brn_out (by omega) (by omega) (by omega) (by omega)]⟩, y_up tn (by omega), fun G E ⟨m1, m2, m3, m4⟩ => ⟨_, c_M_carriesOut_10 l G E (3 * i9) (by omega) m2 _ _ rfl rfl _ _ (by rw [← m1]; exact c_M_passesNight l G E n (by rw [m1]; exact hn2) h8 w (by rw [m1]; exact hw2) h6 (fun k hk => by rw [m1]; exact hcr k hk))⟩⟩
theorem k_11 {l : Launch} {B : Nat} {D : xd} {z : Nat → Int32} {n w : Nat} (t : r_T B D 1 z n w) (hB : B + 12 < 100000) {a b i9 : Nat} (ha : a < 1000) (hb : b < 1000) (hi9 : i9 < 59) : y_cmd l B D z 11 a b i9 := by
  obtain ⟨⟨hn, hn2, hw, hw2, e5, e6, e7⟩, ⟨h8, h6, v3, v4, v5⟩, -, -⟩ := id t
  obtain ⟨b9, t9, m1, m2, m3⟩ := t.2.2.1
  have m2 : D 14 2 = nI t9 := m2
  have f3 : D 14 2 = z 5 := e7.2.2.2
  rcases o_rpay hn h8 with ⟨h0, h1, hx⟩ | ⟨h0, hx⟩
  · obtain ⟨sh, s1, s2, s3⟩ := r_sh t.2.1
    have s4 : ∀ j, j < n → z (14 + j) = nI (sh j) := fun j hj => (e5 j hj).2.1.symm.trans (s1 j hj)
    have ht1 : 1 ≤ t9 := by
      rcases Nat.eq_zero_or_pos t9 with y | y
      · subst y
        exact absurd m2 hx
      · exact y
    have hz5 : z 5 = nI t9 := f3.symm.trans m2
    refine Or.inl ⟨_, _, ⟨fun G => ?_, fun G => c_F_perform_11 l G D _ _ n hn h8 t9 sh s1 s2 (s3 h1) (by omega) m2, fun k hk => by rw [f_shr_out (by omega) (by omega) (by omega)]⟩, y_up (t_pay (a := 159) t (by omega) s1 s2 (s3 h1) (by omega) m2 (by omega)) (by omega), fun G E ⟨m1, m2, m3, m4⟩ => ⟨_, c_M_carriesOut_11 l G E (3 * i9) (by omega) m2 _ _ rfl rfl _ _ (by rw [← m1]; exact c_M_pays l G E t9 sh n (by rw [m1]; exact hn2) h8 h1 (fun j hj => by rw [m1]; exact s4 j hj) s2 (s3 h1) (by omega) (by rw [m1]; exact hz5) ht1)⟩⟩
    have hr := c_F_refusalOf_11 l G D (nI a) (nI b)
    rw [h0] at hr
    exact hr
  · refine Or.inr ⟨⟨3, by decide, by decide, fun G => ?_⟩, fun G E ⟨m1, m2, m3, m4⟩ => ⟨_, 1, by decide, c_M_carriesOut_11 l G E (3 * i9) (by omega) m2 _ _ rfl rfl _ _ (by exact c_M_pays_1 l G E (by rw [m1]; exact hx.elim (fun y => Or.inl (by rw [hn2, y]; rfl)) (fun y => Or.inr (f3.symm.trans y))))⟩⟩
    have hr := c_F_refusalOf_11 l G D (nI a) (nI b)
    rw [h0] at hr
    exact hr
theorem k_12 {l : Launch} {B : Nat} {D : xd} {z : Nat → Int32} {n w : Nat} (t : r_T B D 1 z n w) (hB : B + 12 < 100000) {a b i9 : Nat} (ha : a < 1000) (hb : b < 1000) (hi9 : i9 < 59) : y_cmd l B D z 12 a b i9 := by
  obtain ⟨⟨hn, hn2, hw, hw2, e5, e6, e7⟩, ⟨h8, h6, v3, v4, v5⟩, -, -⟩ := id t
  rcases o_rbuy (nI a) (nI b) hn h8 with ⟨h0, i, hi, he, hy, hp1, hp2, hp3⟩ | ⟨h0, hx⟩ | ⟨h0, ⟨i, hi, he⟩, hy⟩ | ⟨h0, i, hi, he, hy, hp⟩
  · obtain rfl := o_nix ha hi h8 he
    obtain ⟨b1, b2⟩ := o_nrg (lo := 1) (hi9 := 60) hb (by decide) (by decide) hy
    obtain ⟨-, -, -, ⟨q, hq, hvq⟩, -⟩ := v3 a hi
    have hvq : D 7 a = nI q := hvq
    have f1 : D 7 a = z (38 + a) := (e5 a hi).2.2.2.2.1
    have f2 : D 9 a = z (54 + a) := (e5 a hi).2.2.2.2.2.2
    have f3 : D 14 0 = z 3 := e7.2.1
    have h1 : q + b ≤ 60 := by
      rw [hvq, show (60 : Int32) = nI 60 from rfl, pk_sub hq] at hp2
      rcases Nat.lt_or_ge (60 - q) b with y | y
      · exact absurd (nI_lt y (by omega)) hp2
      · omega
    refine Or.inl ⟨_, _, ⟨fun G => ?_, fun G => c_F_perform_12 l G D _ a n hn h8 hi, fun k hk => by unfold f_sell; rw [x_p_ne (by omega)]; rw [x_p_ne (by omega)]; rw [x_p_ne (by omega)]; rw [x_p_ne (by omega)]⟩, y_up (t_sell t hi ⟨q, h1, hvq⟩ hp3 (by omega) b2) (by omega), fun G E ⟨m1, m2, m3, m4⟩ => ⟨_, c_M_carriesOut_12 l G E (3 * i9) (by omega) m2 _ _ (m3 (by decide +kernel)) (m4 (by decide +kernel)) _ _ (by rw [← m1]; exact c_M_buys l G E _ a n (by rw [m1]; exact hn2) h8 hi hy (by rw [m1, ← f1, ← f2, ← f3]; exact ⟨hp1, by rw [hvq, nI_add]; exact (nI_leI (b := 60) (by omega) (by decide)).mpr h1, hp3⟩))⟩⟩
    have hr := c_F_refusalOf_12 l G D (nI a) (nI b) n hn h8
    rw [h0] at hr
    exact hr
  · refine Or.inr ⟨⟨1, by decide, by decide, fun G => ?_⟩, fun G E ⟨m1, m2, m3, m4⟩ => ⟨_, 1, by decide, c_M_carriesOut_12 l G E (3 * i9) (by omega) m2 _ _ (m3 (by decide +kernel)) (m4 (by decide +kernel)) _ _ (by exact c_M_buys_1 l G E _ _ n (by rw [m1]; exact hn2) h8 hx)⟩⟩
    have hr := c_F_refusalOf_12 l G D (nI a) (nI b) n hn h8
    rw [h0] at hr
    exact hr
  · obtain rfl := o_nix ha hi h8 he
    refine Or.inr ⟨⟨2, by decide, by decide, fun G => ?_⟩, fun G E ⟨m1, m2, m3, m4⟩ => ⟨_, 2, by decide, c_M_carriesOut_12 l G E (3 * i9) (by omega) m2 _ _ (m3 (by decide +kernel)) (m4 (by decide +kernel)) _ _ (by exact c_M_buys_2 l G E _ a n (by rw [m1]; exact hn2) h8 hi hy)⟩⟩
    have hr := c_F_refusalOf_12 l G D (nI a) (nI b) n hn h8
    rw [h0] at hr
    exact hr
  · obtain rfl := o_nix ha hi h8 he
    obtain ⟨b1, b2⟩ := o_nrg (lo := 1) (hi9 := 60) hb (by decide) (by decide) hy
    obtain ⟨-, -, -, ⟨q, hq, hvq⟩, -⟩ := v3 a hi
    have hvq : D 7 a = nI q := hvq
    have f1 : D 7 a = z (38 + a) := (e5 a hi).2.2.2.2.1
    have f2 : D 9 a = z (54 + a) := (e5 a hi).2.2.2.2.2.2
    have f3 : D 14 0 = z 3 := e7.2.1
    have hno : ¬ (¬ z 3 < nI b ∧ z (38 + a) + nI b ≤ 60 ∧ ¬ z (54 + a) < nI b) := by
      rw [← f1, ← f2, ← f3]
      intro y
      rcases hp with hp | hp | hp
      · exact y.1 hp
      · rw [hvq, show (60 : Int32) = nI 60 from rfl, pk_sub hq] at hp
        have hlt := (nI_ltI (by omega) (by omega)).mp hp
        have y2 := y.2.1
        rw [hvq, nI_add] at y2
        have := (nI_leI (b := 60) (by omega) (by decide)).mp y2
        omega
      · exact y.2.2 hp
    refine Or.inr ⟨⟨3, by decide, by decide, fun G => ?_⟩, fun G E ⟨m1, m2, m3, m4⟩ => ⟨_, 3, by decide, c_M_carriesOut_12 l G E (3 * i9) (by omega) m2 _ _ (m3 (by decide +kernel)) (m4 (by decide +kernel)) _ _ (by exact c_M_buys_3 l G E _ a n (by rw [m1]; exact hn2) h8 hi hy (by rw [m1]; exact hno))⟩⟩
    have hr := c_F_refusalOf_12 l G D (nI a) (nI b) n hn h8
    rw [h0] at hr
    exact hr
theorem k_all {l : Launch} {B : Nat} {D : xd} {z : Nat → Int32} {v a b i9 : Nat} (t : r_S B D 1 z) (hB : B + 12 < 100000) (hv : v < 13) (ha : a < 1000) (hb : b < 1000) (hi9 : i9 < 59) : y_cmd l B D z v a b i9 := by
  obtain ⟨n, w, t⟩ := t
  have hc : v = 0 ∨ v = 1 ∨ v = 2 ∨ v = 3 ∨ v = 4 ∨ v = 5 ∨ v = 6 ∨ v = 7 ∨ v = 8 ∨ v = 9 ∨ v = 10 ∨ v = 11 ∨ v = 12 := by omega
  rcases hc with rfl | rfl | rfl | rfl | rfl | rfl | rfl | rfl | rfl | rfl | rfl | rfl | rfl
  · exact k_0 t hB ha hb hi9
  · exact k_1 t hB ha hb hi9
  · exact k_2 t hB ha hb hi9
  · exact k_3 t hB ha hb hi9
  · exact k_4 t hB ha hb hi9
  · exact k_5 t hB ha hb hi9
  · exact k_6 t hB ha hb hi9
  · exact k_7 t hB ha hb hi9
  · exact k_8 t hB ha hb hi9
  · exact k_9 t hB ha hb hi9
  · exact k_10 t hB ha hb hi9
  · exact k_11 t hB ha hb hi9
  · exact k_12 t hB ha hb hi9
