-- STAND-INS
theorem n : True := trivial
theorem i : True := trivial
theorem k : True := trivial
theorem q : True := trivial
theorem u : True := trivial
theorem v : True := trivial
theorem w : True := trivial
theorem j : True := trivial
theorem o : True := trivial
theorem a : True := trivial
theorem b : True := trivial
theorem y : True := trivial
theorem z : True := trivial
theorem r : True := trivial
theorem t : True := trivial
theorem f : True := trivial
theorem g : True := trivial
theorem o2 : True := trivial
theorem a2 : True := trivial
theorem hlt : True := trivial
theorem hltk : True := trivial
theorem hlt3 : True := trivial
theorem hlt4 : True := trivial
theorem hn : True := trivial
theorem hq : True := trivial
theorem hm : True := trivial
theorem hi : True := trivial
theorem hi2 : True := trivial
theorem hi3 : True := trivial
theorem hk : True := trivial
theorem hj : True := trivial
theorem hb : True := trivial
theorem hs : True := trivial
theorem hw : True := trivial
theorem hx : True := trivial
theorem hz : True := trivial
theorem hv : True := trivial
theorem hr : True := trivial
theorem hc : True := trivial
theorem hu : True := trivial
theorem hp : True := trivial
theorem hl : True := trivial
theorem hh : True := trivial
theorem e : True := trivial
theorem e9 : True := trivial
theorem sh : True := trivial
theorem a0 : True := trivial
theorem c9 : True := trivial
theorem k9 : True := trivial
theorem m9 : True := trivial
theorem mm : True := trivial
theorem ha : True := trivial
theorem ho : True := trivial
theorem hS : True := trivial
theorem ha0 : True := trivial
theorem hs9 : True := trivial
theorem hk0 : True := trivial
theorem hk1 : True := trivial
theorem hk9 : True := trivial
theorem hap : True := trivial
theorem hoo : True := trivial
theorem qh : True := trivial
theorem ex : True := trivial
theorem ih : True := trivial
theorem ihk : True := trivial
theorem ih1 : True := trivial
theorem ih2 : True := trivial
theorem ih3 : True := trivial
theorem ih4 : True := trivial
theorem ihj : True := trivial
theorem st : True := trivial
theorem lst : True := trivial
theorem args0 : True := trivial
theorem hcn : True := trivial
theorem hcir : True := trivial
theorem q8 : True := trivial
theorem z8 : True := trivial
theorem h0 : True := trivial
theorem h1 : True := trivial
theorem h2 : True := trivial
theorem h3 : True := trivial
theorem h4 : True := trivial
theorem h5 : True := trivial
theorem h7 : True := trivial
theorem h10 : True := trivial
theorem h11 : True := trivial
theorem h12 : True := trivial
theorem h13 : True := trivial
theorem h14 : True := trivial
theorem h15 : True := trivial
theorem h16 : True := trivial
theorem h17 : True := trivial
theorem h18 : True := trivial
theorem h19 : True := trivial
theorem h20 : True := trivial
theorem h21 : True := trivial
theorem h22 : True := trivial
theorem h23 : True := trivial
theorem h24 : True := trivial
theorem h25 : True := trivial
theorem h26 : True := trivial
theorem h27 : True := trivial
theorem h28 : True := trivial
theorem h29 : True := trivial
theorem h30 : True := trivial
theorem h31 : True := trivial
theorem h32 : True := trivial
theorem h33 : True := trivial
theorem h34 : True := trivial
theorem h35 : True := trivial
theorem h36 : True := trivial
theorem h37 : True := trivial
theorem h38 : True := trivial
theorem h39 : True := trivial
theorem h40 : True := trivial
theorem h41 : True := trivial
theorem h42 : True := trivial
theorem h43 : True := trivial
theorem h44 : True := trivial
theorem h45 : True := trivial
theorem h46 : True := trivial
theorem h47 : True := trivial
theorem h48 : True := trivial
theorem h49 : True := trivial
theorem h50 : True := trivial
theorem h51 : True := trivial
theorem h52 : True := trivial
theorem h53 : True := trivial
theorem h54 : True := trivial
theorem h55 : True := trivial
theorem h56 : True := trivial
theorem h57 : True := trivial
theorem h58 : True := trivial
theorem h59 : True := trivial
theorem h60 : True := trivial
theorem h61 : True := trivial
theorem h62 : True := trivial
theorem h63 : True := trivial
theorem h64 : True := trivial
theorem h65 : True := trivial
theorem h66 : True := trivial
theorem h67 : True := trivial
theorem h68 : True := trivial
theorem h69 : True := trivial
theorem h70 : True := trivial
theorem h71 : True := trivial
theorem h72 : True := trivial
theorem h73 : True := trivial
theorem h74 : True := trivial
theorem h75 : True := trivial
theorem h76 : True := trivial
theorem h77 : True := trivial
theorem h78 : True := trivial
theorem h79 : True := trivial
theorem h80 : True := trivial
theorem h81 : True := trivial
theorem h82 : True := trivial
theorem h83 : True := trivial
theorem h84 : True := trivial
theorem h85 : True := trivial
theorem h86 : True := trivial
theorem h87 : True := trivial
theorem h88 : True := trivial
theorem h89 : True := trivial
theorem h90 : True := trivial
theorem h91 : True := trivial
theorem h92 : True := trivial
theorem h93 : True := trivial
theorem h94 : True := trivial
theorem h95 : True := trivial
theorem h96 : True := trivial
theorem h97 : True := trivial
theorem h98 : True := trivial
theorem h99 : True := trivial
theorem h100 : True := trivial
theorem h101 : True := trivial
theorem h102 : True := trivial
theorem h103 : True := trivial
theorem h104 : True := trivial
theorem h105 : True := trivial
theorem h106 : True := trivial
theorem h107 : True := trivial
theorem h108 : True := trivial
theorem h109 : True := trivial
theorem h110 : True := trivial
theorem h111 : True := trivial
theorem h112 : True := trivial
theorem h113 : True := trivial
theorem h114 : True := trivial
theorem h115 : True := trivial
theorem h116 : True := trivial
theorem h117 : True := trivial
theorem h118 : True := trivial
theorem h119 : True := trivial
theorem h120 : True := trivial
theorem h121 : True := trivial
theorem h122 : True := trivial
theorem h123 : True := trivial
theorem h124 : True := trivial
theorem h125 : True := trivial
theorem h126 : True := trivial
theorem h127 : True := trivial
theorem h128 : True := trivial
theorem h129 : True := trivial
theorem h130 : True := trivial
theorem h131 : True := trivial
theorem h132 : True := trivial
theorem h133 : True := trivial
theorem h134 : True := trivial
theorem h135 : True := trivial
theorem h136 : True := trivial
theorem h137 : True := trivial
theorem h138 : True := trivial
theorem h139 : True := trivial
theorem h140 : True := trivial
theorem h141 : True := trivial
theorem h142 : True := trivial
theorem h143 : True := trivial
theorem h144 : True := trivial
theorem h145 : True := trivial
theorem h146 : True := trivial
theorem h147 : True := trivial
theorem h148 : True := trivial
theorem h149 : True := trivial
theorem h150 : True := trivial
theorem h151 : True := trivial
theorem h152 : True := trivial
theorem h153 : True := trivial
theorem h154 : True := trivial
theorem h155 : True := trivial
theorem h156 : True := trivial
theorem h157 : True := trivial
theorem h158 : True := trivial
theorem h159 : True := trivial
theorem h160 : True := trivial
theorem h161 : True := trivial
theorem h162 : True := trivial
theorem h163 : True := trivial
theorem h164 : True := trivial
theorem h165 : True := trivial
theorem h166 : True := trivial
theorem h167 : True := trivial
theorem h168 : True := trivial
theorem h169 : True := trivial
theorem h170 : True := trivial
theorem h171 : True := trivial
theorem h172 : True := trivial
theorem h173 : True := trivial
theorem h174 : True := trivial
theorem h175 : True := trivial
theorem h176 : True := trivial
theorem h177 : True := trivial
theorem h178 : True := trivial
theorem h179 : True := trivial
theorem h180 : True := trivial
theorem h181 : True := trivial
theorem h182 : True := trivial
theorem h183 : True := trivial
theorem h184 : True := trivial
theorem h185 : True := trivial
theorem h186 : True := trivial
theorem h187 : True := trivial
theorem h188 : True := trivial
theorem h189 : True := trivial
theorem h190 : True := trivial
theorem h191 : True := trivial
theorem h192 : True := trivial
theorem h193 : True := trivial
theorem h194 : True := trivial
theorem h195 : True := trivial
theorem h196 : True := trivial
theorem h197 : True := trivial
theorem h198 : True := trivial
theorem h199 : True := trivial
theorem L0 : True := trivial
theorem L1 : True := trivial
theorem L2 : True := trivial
theorem L3 : True := trivial
theorem L4 : True := trivial
theorem L5 : True := trivial
theorem L6 : True := trivial
theorem L7 : True := trivial
theorem L8 : True := trivial
theorem L9 : True := trivial
theorem L10 : True := trivial
theorem L11 : True := trivial
theorem L12 : True := trivial
theorem L13 : True := trivial
theorem L14 : True := trivial
theorem L15 : True := trivial
theorem L16 : True := trivial
theorem L17 : True := trivial
theorem L18 : True := trivial
theorem L19 : True := trivial
theorem L20 : True := trivial
theorem L21 : True := trivial
theorem L22 : True := trivial
theorem L23 : True := trivial
theorem L24 : True := trivial
theorem L25 : True := trivial
theorem L26 : True := trivial
theorem L27 : True := trivial
theorem L28 : True := trivial
theorem L29 : True := trivial
theorem L30 : True := trivial
theorem L31 : True := trivial
theorem L32 : True := trivial
theorem L33 : True := trivial
theorem L34 : True := trivial
theorem L35 : True := trivial
theorem L36 : True := trivial
theorem L37 : True := trivial
theorem L38 : True := trivial
theorem L39 : True := trivial
theorem L40 : True := trivial
theorem L41 : True := trivial
theorem L42 : True := trivial
theorem L43 : True := trivial
theorem L44 : True := trivial
theorem L45 : True := trivial
theorem L46 : True := trivial
theorem L47 : True := trivial
theorem L48 : True := trivial
theorem L49 : True := trivial
theorem L50 : True := trivial
theorem L51 : True := trivial
theorem L52 : True := trivial
theorem L53 : True := trivial
theorem L54 : True := trivial
theorem L55 : True := trivial
theorem L56 : True := trivial
theorem L57 : True := trivial
theorem L58 : True := trivial
theorem L59 : True := trivial
theorem L60 : True := trivial
theorem L61 : True := trivial
theorem L62 : True := trivial
theorem L63 : True := trivial
theorem L64 : True := trivial
theorem L65 : True := trivial
theorem L66 : True := trivial
theorem L67 : True := trivial
theorem L68 : True := trivial
theorem L69 : True := trivial
theorem L70 : True := trivial
theorem L71 : True := trivial
theorem L72 : True := trivial
theorem L73 : True := trivial
theorem L74 : True := trivial
theorem L75 : True := trivial
theorem L76 : True := trivial
theorem L77 : True := trivial
theorem L78 : True := trivial
theorem L79 : True := trivial
theorem L80 : True := trivial
theorem L81 : True := trivial
theorem L82 : True := trivial
theorem L83 : True := trivial
theorem L84 : True := trivial
theorem L85 : True := trivial
theorem L86 : True := trivial
theorem L87 : True := trivial
theorem L88 : True := trivial
theorem L89 : True := trivial
theorem L90 : True := trivial
theorem L91 : True := trivial
theorem L92 : True := trivial
theorem L93 : True := trivial
theorem L94 : True := trivial
theorem L95 : True := trivial
theorem L96 : True := trivial
theorem L97 : True := trivial
theorem L98 : True := trivial
theorem L99 : True := trivial
theorem L100 : True := trivial
theorem L101 : True := trivial
theorem L102 : True := trivial
theorem L103 : True := trivial
theorem L104 : True := trivial
theorem L105 : True := trivial
theorem L106 : True := trivial
theorem L107 : True := trivial
theorem L108 : True := trivial
theorem L109 : True := trivial
theorem L110 : True := trivial
theorem L111 : True := trivial
theorem L112 : True := trivial
theorem L113 : True := trivial
theorem L114 : True := trivial
theorem L115 : True := trivial
theorem L116 : True := trivial
theorem L117 : True := trivial
theorem L118 : True := trivial
theorem L119 : True := trivial
theorem L120 : True := trivial
theorem L121 : True := trivial
theorem L122 : True := trivial
theorem L123 : True := trivial
theorem L124 : True := trivial
theorem L125 : True := trivial
theorem L126 : True := trivial
theorem L127 : True := trivial
theorem L128 : True := trivial
theorem L129 : True := trivial
theorem L130 : True := trivial
theorem L131 : True := trivial
theorem L132 : True := trivial
theorem L133 : True := trivial
theorem L134 : True := trivial
theorem L135 : True := trivial
theorem L136 : True := trivial
theorem L137 : True := trivial
theorem L138 : True := trivial
theorem L139 : True := trivial
theorem L140 : True := trivial
theorem L141 : True := trivial
theorem L142 : True := trivial
theorem L143 : True := trivial
theorem L144 : True := trivial
theorem L145 : True := trivial
theorem L146 : True := trivial
theorem L147 : True := trivial
theorem L148 : True := trivial
theorem L149 : True := trivial
theorem L150 : True := trivial
theorem L151 : True := trivial
theorem L152 : True := trivial
theorem L153 : True := trivial
theorem L154 : True := trivial
theorem L155 : True := trivial
theorem L156 : True := trivial
theorem L157 : True := trivial
theorem L158 : True := trivial
theorem L159 : True := trivial
theorem L160 : True := trivial
theorem L161 : True := trivial
theorem L162 : True := trivial
theorem L163 : True := trivial
theorem L164 : True := trivial
theorem L165 : True := trivial
theorem L166 : True := trivial
theorem L167 : True := trivial
theorem L168 : True := trivial
theorem L169 : True := trivial
theorem L170 : True := trivial
theorem L171 : True := trivial
theorem L172 : True := trivial
theorem L173 : True := trivial
theorem L174 : True := trivial
theorem L175 : True := trivial
theorem L176 : True := trivial
theorem L177 : True := trivial
theorem L178 : True := trivial
theorem L179 : True := trivial
theorem L180 : True := trivial
theorem L181 : True := trivial
theorem L182 : True := trivial
theorem L183 : True := trivial
theorem L184 : True := trivial
theorem L185 : True := trivial
theorem L186 : True := trivial
theorem L187 : True := trivial
theorem L188 : True := trivial
theorem L189 : True := trivial
theorem L190 : True := trivial
theorem L191 : True := trivial
theorem L192 : True := trivial
theorem L193 : True := trivial
theorem L194 : True := trivial
theorem L195 : True := trivial
theorem L196 : True := trivial
theorem L197 : True := trivial
theorem L198 : True := trivial
theorem L199 : True := trivial
-- STAND-INS
theorem t_set3 {B : Nat} {d : xd} {o n q : Nat} {z : Nat → Int32} (h : r_T B d o z n q) {i : Nat} {x : Int32} (hi : i < n) (hv : ∃ a, 1 ≤ a ∧ a ≤ 9 ∧ x = nI a) : r_T B (x_p d (o + 3) i x) o (upd z (14 + i) x) n q := by
  obtain ⟨e, v, m9, bl⟩ := h
  have hn := v.1
  have hq := v.2.1
  exact ⟨e_l3 e hn hq (by omega), v_l3 v hv, m_cong m9 (fun _ _ => by rw [x_p_ne (by omega)]) (by rw [x_p_ne (by omega)]) (Nat.le_refl B), b_cong bl (fun _ _ => by rw [x_p_ne (by omega)]) (fun _ _ => by rw [x_p_ne (by omega)]) (fun _ _ => by rw [x_p_ne (by omega)]) (fun _ _ => by rw [x_p_ne (by omega)])⟩
theorem t_set4 {B : Nat} {d : xd} {o n q : Nat} {z : Nat → Int32} (h : r_T B d o z n q) {i : Nat} {x : Int32} (hi : i < n) (hv : ∃ a, 1 ≤ a ∧ a ≤ 5 ∧ x = nI a) : r_T B (x_p d (o + 4) i x) o (upd z (22 + i) x) n q := by
  obtain ⟨e, v, m9, bl⟩ := h
  have hn := v.1
  have hq := v.2.1
  exact ⟨e_l4 e hn hq (by omega), v_l4 v hv, m_cong m9 (fun _ _ => by rw [x_p_ne (by omega)]) (by rw [x_p_ne (by omega)]) (Nat.le_refl B), b_cong bl (fun _ _ => by rw [x_p_ne (by omega)]) (fun _ _ => by rw [x_p_ne (by omega)]) (fun _ _ => by rw [x_p_ne (by omega)]) (fun _ _ => by rw [x_p_ne (by omega)])⟩
theorem t_on {B : Nat} {d : xd} {o n q : Nat} {z : Nat → Int32} (h : r_T B d o z n q) {i : Nat} (hi : i < n) : r_T B (x_p d (o + 5) i 1) o (upd z (30 + i) 0) n q := by
  obtain ⟨e, v, m9, bl⟩ := h
  have hn := v.1
  have hq := v.2.1
  exact ⟨e_l5 (by decide) e hn hq (by omega), v_l5 v, m_cong m9 (fun _ _ => by rw [x_p_ne (by omega)]) (by rw [x_p_ne (by omega)]) (Nat.le_refl B), b_cong bl (fun _ _ => by rw [x_p_ne (by omega)]) (fun _ _ => by rw [x_p_ne (by omega)]) (fun _ _ => by rw [x_p_ne (by omega)]) (fun _ _ => by rw [x_p_ne (by omega)])⟩
theorem t_off {B : Nat} {d : xd} {o n q : Nat} {z : Nat → Int32} (h : r_T B d o z n q) {i : Nat} (hi : i < n) : r_T B (x_p d (o + 5) i 0) o (upd z (30 + i) 1) n q := by
  obtain ⟨e, v, m9, bl⟩ := h
  have hn := v.1
  have hq := v.2.1
  exact ⟨e_l5 (by decide) e hn hq (by omega), v_l5 v, m_cong m9 (fun _ _ => by rw [x_p_ne (by omega)]) (by rw [x_p_ne (by omega)]) (Nat.le_refl B), b_cong bl (fun _ _ => by rw [x_p_ne (by omega)]) (fun _ _ => by rw [x_p_ne (by omega)]) (fun _ _ => by rw [x_p_ne (by omega)]) (fun _ _ => by rw [x_p_ne (by omega)])⟩
theorem t_mvm {B : Nat} {d : xd} {o n q : Nat} {z : Nat → Int32} (h : r_T B d o z n q) {i : Nat} {x : Int32} (hi : i < q) (hv : x = -1 ∨ ∃ w, w < n ∧ x = nI w) : r_T B (x_p d (o + 10) i x) o (upd z (62 + i) (x + 1)) n q := by
  obtain ⟨e, v, m9, bl⟩ := h
  have hn := v.1
  have hq := v.2.1
  exact ⟨e_m10 (by grind) e hn hq (by omega), v_m10 v hv, m_cong m9 (fun _ _ => by rw [x_p_ne (by omega)]) (by rw [x_p_ne (by omega)]) (Nat.le_refl B), b_cong bl (fun _ _ => by rw [x_p_ne (by omega)]) (fun _ _ => by rw [x_p_ne (by omega)]) (fun _ _ => by rw [x_p_ne (by omega)]) (fun _ _ => by rw [x_p_ne (by omega)])⟩
theorem t_adm {B : Nat} {d : xd} {o n q : Nat} {z : Nat → Int32} (h : r_T B d o z n q) {i : Nat} (hi : i < n) (h6 : q < 6) : r_T B (f_appm d o q (nI i)) o (g_addm z i q) n (q + 1) := by
  obtain ⟨e, v, m9, bl⟩ := h
  have hn := v.1
  have hq := v.2.1
  unfold f_appm g_addm
  refine ⟨?_, ?_, m_cong m9 (fun _ _ => by rw [x_p_ne (by omega), x_p_ne (by omega), x_p_ne (by omega), x_p_ne (by omega)]) (by rw [x_p_ne (by omega), x_p_ne (by omega), x_p_ne (by omega), x_p_ne (by omega)]) (Nat.le_refl B), b_cong bl (fun _ _ => by rw [x_p_ne (by omega), x_p_ne (by omega), x_p_ne (by omega), x_p_ne (by omega)]) (fun _ _ => by rw [x_p_ne (by omega), x_p_ne (by omega), x_p_ne (by omega), x_p_ne (by omega)]) (fun _ _ => by rw [x_p_ne (by omega), x_p_ne (by omega), x_p_ne (by omega), x_p_ne (by omega)]) (fun _ _ => by rw [x_p_ne (by omega), x_p_ne (by omega), x_p_ne (by omega), x_p_ne (by omega)])⟩
  · refine e_q (e_m12 (e_m11 (e_m10 (by grind) e hn hq h6) hn hq h6) hn hq h6) ?_ hn h6
    refine ⟨?_, ?_, ?_⟩
    · rw [x_p_ne (by omega), x_p_ne (by omega), x_p_at, x_upd_ne (by omega), x_upd_ne (by omega), x_upd_at]
      grind
    · rw [x_p_ne (by omega), x_p_at, x_upd_ne (by omega), x_upd_at]
    · rw [x_p_at, x_upd_at]
  · refine v_q (v_m12 (v_m11 (v_m10 v (Or.inr ⟨i, hi, rfl⟩)) (Or.inl rfl)) ⟨3, by omega, rfl⟩) h6 ?_
    refine ⟨?_, ?_, ?_⟩
    · rw [x_p_ne (by omega), x_p_ne (by omega), x_p_at]; exact Or.inr ⟨i, hi, rfl⟩
    · rw [x_p_ne (by omega), x_p_at]; exact Or.inl rfl
    · rw [x_p_at]; exact ⟨3, by omega, rfl⟩
theorem t_don {B : Nat} {d : xd} {o n q : Nat} {z : Nat → Int32} (h : r_T B d o z n q) {u : Nat} (hu : ∃ a, a + u ≤ 99 ∧ d (o + 13) 1 = nI a) : r_T B (f_don d o (nI u)) o (upd z 4 (z 4 + nI u)) n q := by
  obtain ⟨e, v, m9, bl⟩ := h
  have hn := v.1
  have hq := v.2.1
  obtain ⟨a, ha, ha2⟩ := hu
  have e4 := e.2.2.2.2.2.2.2.2.1
  unfold f_don
  refine ⟨?_, ?_, m_cong m9 (fun _ _ => by rw [x_p_ne (by omega), x_p_ne (by omega)]) (by rw [x_p_row (by omega), x_p_row (by omega)]) (Nat.le_refl B), ?_⟩
  · rw [← e4]
    exact e_bx (e_b1 e hn hq) (by omega)
  · exact v_bx (v_b1 v ⟨a + u, ha, by rw [ha2, nI_add]⟩) (by omega)
  · have r13 : ∀ j, x_p (x_p d (o + 13) 1 (d (o + 13) 1 + nI u)) (o + 13) 7 (d (o + 13) 7 + nI u) (o + 13) j = if j = 7 then d (o + 13) 7 + nI u else if j = 1 then d (o + 13) 1 + nI u else d (o + 13) j := fun j => by grind [x_pa]
    unfold f_bal at bl ⊢
    simp only [r13]
    rw [x_p_ne (by omega), x_p_ne (by omega), x_p_ne (by omega), x_p_ne (by omega), x_p_ne (by omega), x_p_ne (by omega)]
    simp
    obtain ⟨b1, b2, b3⟩ := bl
    refine ⟨b1, ?_, b3⟩
    grind
theorem t_mvw {B : Nat} {d : xd} {o n q : Nat} {z : Nat → Int32} (h : r_T B d o z n q) {i : Nat} {u : Int32} (hi : i < n) (hw : ∃ a, a ≤ 9 ∧ d (o + 7) i + u = nI a) (hp : ∃ a, a ≤ 99 ∧ d (o + 13) 1 - u = nI a) : r_T B (f_mvw d o i u) o (upd (upd z (46 + i) (z (46 + i) + u)) 4 (z 4 - u)) n q := by
  obtain ⟨e, v, m9, bl⟩ := h
  have hn := v.1
  have hq := v.2.1
  have e4 := e.2.2.2.2.2.2.2.2.1
  have e7 := (e.2.2.2.2.1 i hi).2.2.2.2.2.1
  unfold f_mvw
  refine ⟨?_, ?_, m_cong m9 (fun _ _ => by rw [x_p_ne (by omega), x_p_ne (by omega)]) (by rw [x_p_ne (by omega), x_p_row (by omega)]) (Nat.le_refl B), ?_⟩
  · rw [x_upd_comm (by omega), ← e4, ← e7]
    exact e_l7 (e_b1 e hn hq) hn hq (by omega)
  · exact v_l7 (v_b1 v hp) hw
  · have r7 : x_p (x_p d (o + 13) 1 (d (o + 13) 1 - u)) (o + 7) i (d (o + 7) i + u) (o + 7) = upd (d (o + 7)) i (d (o + 7) i + u) := by rw [x_prow, x_p_ne (by omega)]
    have r13 : ∀ j, x_p (x_p d (o + 13) 1 (d (o + 13) 1 - u)) (o + 7) i (d (o + 7) i + u) (o + 13) j = if j = 1 then d (o + 13) 1 - u else d (o + 13) j := fun j => by grind [x_pa]
    unfold f_bal at bl ⊢
    simp only [r13, r7, f_sum_upd hi]
    rw [x_p_ne (by omega), x_p_ne (by omega), x_p_ne (by omega), x_p_ne (by omega)]
    simp
    obtain ⟨b1, b2, b3⟩ := bl
    refine ⟨b1, ?_, b3⟩
    grind
theorem t_sell {B : Nat} {d : xd} {o n q : Nat} {z : Nat → Int32} (h : r_T B d o z n q) {i u : Nat} (hi : i < n) (ho : ∃ a, a + u ≤ 60 ∧ d (o + 6) i = nI a) (hb : ¬ d (o + 8) i < nI u) (hB : B < 100000) (hu : u ≤ 60) : r_T B (f_sell d o i (nI u)) o (g_buys z (nI u) i) n q := by
  obtain ⟨e, v, m9, bl⟩ := h
  have hn := v.1
  have hq := v.2.1
  obtain ⟨e1, e2, e3, e4, e5, e6, e70, e71, e72, e73⟩ := e
  have e : r_E d o z n q := ⟨e1, e2, e3, e4, e5, e6, e70, e71, e72, e73⟩
  obtain ⟨a2, a3, a4, a5, a6, a7, a8⟩ := e5 i hi
  obtain ⟨a, ha, ha2⟩ := ho
  unfold f_sell g_buys
  refine ⟨?_, ?_, ?_, ?_⟩
  · rw [← e71, ← e73, ← a6, ← a8]
    exact e_b2 (e_l8 (e_l6 (e_b0 e hn hq) hn hq (by omega)) hn hq (by omega)) hn hq
  · exact v_bx (v_l8 (v_l6 (v_bx v (by omega)) ⟨a + u, ha, by rw [ha2, nI_add]⟩)) (by omega)
  · obtain ⟨b, t, h1, h2, h3⟩ := m9
    have hbi := h1 i hi
    have hle : b i ≤ f_sn b n := by
      have y := x_sn_mono b (i := i + 1) (n := n) hi
      rw [f_sn] at y
      omega
    have hge : u ≤ b i := by
      rcases Nat.lt_or_ge (b i) u with y | y
      · exact absurd (by rw [hbi]; exact nI_lt y (by omega)) hb
      · exact y
    refine ⟨fun j => if j = i then b i - u else b j, t + u, fun j hj => ?_, ?_, ?_⟩
    · show _ = nI (if j = i then b i - u else b j)
      rw [x_p_ne (by omega)]
      by_cases y : j = i
      · subst y
        rw [x_p_at, if_pos rfl, hbi, pk_sub hge]
      · rw [x_p_row y, x_p_ne (by omega), x_p_ne (by omega), if_neg y]
        exact h1 j hj
    · rw [x_p_at, h2, nI_add]
    · have y : f_sn (fun j => if j = i then b i - u else b j) n + b i = f_sn b n + (b i - u) := by
        have y9 := f_sn_upd (f := b) (g := fun j => if j = i then b i - u else b j) hi (fun j _ hj => if_neg hj)
        simpa using y9
      omega
  · have r6 : x_p (x_p (x_p (x_p d (o + 13) 0 (d (o + 13) 0 - nI u)) (o + 6) i (d (o + 6) i + nI u)) (o + 8) i (d (o + 8) i - nI u)) (o + 13) 2 (d (o + 13) 2 + nI u) (o + 6) = upd (d (o + 6)) i (d (o + 6) i + nI u) := by rw [x_p_ne (by omega), x_p_ne (by omega), x_prow, x_p_ne (by omega)]
    have r8 : x_p (x_p (x_p (x_p d (o + 13) 0 (d (o + 13) 0 - nI u)) (o + 6) i (d (o + 6) i + nI u)) (o + 8) i (d (o + 8) i - nI u)) (o + 13) 2 (d (o + 13) 2 + nI u) (o + 8) = upd (d (o + 8)) i (d (o + 8) i - nI u) := by rw [x_p_ne (by omega), x_prow, x_p_ne (by omega), x_p_ne (by omega)]
    have r7 : x_p (x_p (x_p (x_p d (o + 13) 0 (d (o + 13) 0 - nI u)) (o + 6) i (d (o + 6) i + nI u)) (o + 8) i (d (o + 8) i - nI u)) (o + 13) 2 (d (o + 13) 2 + nI u) (o + 7) = d (o + 7) := by rw [x_p_ne (by omega), x_p_ne (by omega), x_p_ne (by omega), x_p_ne (by omega)]
    have r13 : ∀ j, x_p (x_p (x_p (x_p d (o + 13) 0 (d (o + 13) 0 - nI u)) (o + 6) i (d (o + 6) i + nI u)) (o + 8) i (d (o + 8) i - nI u)) (o + 13) 2 (d (o + 13) 2 + nI u) (o + 13) j = if j = 2 then d (o + 13) 2 + nI u else if j = 0 then d (o + 13) 0 - nI u else d (o + 13) j := fun j => by grind [x_pa]
    unfold f_bal at bl ⊢
    simp only [r13, r6, r7, r8, f_sum_upd hi]
    simp
    obtain ⟨b1, b2, b3⟩ := bl
    refine ⟨?_, b2, ?_⟩
    · grind
    · grind
/-- rows changed at once: what is told of the new ones -/
theorem x_minmax {x y : Int32} : (if x < y then x else y) = if y < x then y else x := by
  by_cases h : x < y
  · rw [if_pos h, if_neg (Int32.not_lt.mpr (Int32.le_of_lt h))]
  · rw [if_neg h]
    by_cases h2 : y < x
    · rw [if_pos h2]
    · rw [if_neg h2]
      exact Int32.le_antisymm (Int32.not_lt.mp h) (Int32.not_lt.mp h2)
theorem f_cap_is (f : Nat → Int32) (x : Int32) : ∀ n j, f_cap f x n j = if j < n then (if x < f j then x else f j) else f j
  | 0, j => by rw [if_neg (Nat.not_lt_zero j)]; rfl
  | n + 1, j => by
    rw [f_cap]
    by_cases e : j = n
    · subst e
      rw [x_upd_at, f_cap_is f x j j, if_neg (Nat.lt_irrefl j), if_pos (Nat.lt_succ_self j)]
    · rw [x_upd_ne e, f_cap_is f x n j]
      by_cases y : j < n
      · rw [if_pos y, if_pos (show j < n + 1 by omega)]
      · rw [if_neg y, if_neg (show ¬ j < n + 1 by omega)]
theorem t_cap {B : Nat} {d : xd} {o n q : Nat} {z : Nat → Int32} (h : r_T B d o z n q) {x : Nat} (hx : 1 ≤ x ∧ x ≤ 5) : r_T B (x_r d (o + 4) (f_cap (d (o + 4)) (nI x) n)) o (g_cap z (nI x) n) n q := by
  obtain ⟨e, v, m9, bl⟩ := h
  have hn := v.1
  have hq := v.2.1
  have y0 : ∀ k, k ≠ o + 4 → x_r d (o + 4) (f_cap (d (o + 4)) (nI x) n) k = d k := fun k hk => x_r_ne2 hk
  refine ⟨?_, ?_, m_cong m9 (fun _ _ => by rw [y0 _ (by omega)]) (by rw [y0 _ (by omega)]) (Nat.le_refl B), b_cong bl (fun _ _ => by rw [y0 _ (by omega)]) (fun _ _ => by rw [y0 _ (by omega)]) (fun _ _ => by rw [y0 _ (by omega)]) (fun _ _ => by rw [y0 _ (by omega)])⟩
  · obtain ⟨e1, e2, e3, e4, e5, e6, e7⟩ := e
    have g : ∀ j, j < 22 ∨ 22 + n ≤ j → g_cap z (nI x) n j = z j := fun j hj => g_cap_out hj
    refine ⟨by rw [y0 _ (by omega)]; exact e1, by rw [g _ (by omega)]; exact e2, by rw [y0 _ (by omega)]; exact e3, by rw [g _ (by omega)]; exact e4, fun i hi => ?_, fun k hk => ?_, ?_⟩
    · obtain ⟨a2, a3, a4, a5, a6, a7, a8⟩ := e5 i hi
      refine ⟨by rw [y0 _ (by omega), g _ (by omega)]; exact a2, by rw [y0 _ (by omega), g _ (by omega)]; exact a3, ?_, by rw [y0 _ (by omega), g _ (by omega)]; exact a5, by rw [y0 _ (by omega), g _ (by omega)]; exact a6, by rw [y0 _ (by omega), g _ (by omega)]; exact a7, by rw [y0 _ (by omega), g _ (by omega)]; exact a8⟩
      rw [x_r_same, f_cap_is, if_pos hi, a4]
      unfold g_cap
      rw [if_pos (show 22 ≤ 22 + i ∧ 22 + i < 22 + n by omega), x_minmax]
    · rw [y0 _ (by omega), y0 _ (by omega), y0 _ (by omega), g _ (by omega), g _ (by omega), g _ (by omega)]
      exact e6 k hk
    · rw [y0 _ (by omega), g _ (by omega), g _ (by omega), g _ (by omega), g _ (by omega)]
      exact e7
  · obtain ⟨v1, v2, v3, v4, v5⟩ := v
    refine ⟨v1, v2, fun i hi => ?_, fun k hk => by rw [y0 _ (by omega), y0 _ (by omega), y0 _ (by omega)]; exact v4 k hk, by rw [y0 _ (by omega)]; exact v5⟩
    obtain ⟨a2, a3, a4, a6, a7⟩ := v3 i hi
    rw [y0 (o + 2) (by omega), y0 (o + 3) (by omega), y0 (o + 6) (by omega), y0 (o + 7) (by omega), x_r_same, f_cap_is, if_pos hi]
    refine ⟨a2, a3, ?_, a6, a7⟩
    by_cases y : nI x < d (o + 4) i
    · rw [if_pos y]
      exact ⟨x, hx.1, hx.2, rfl⟩
    · rw [if_neg y]
      exact a4

