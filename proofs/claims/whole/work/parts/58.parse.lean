-- STAND-INS
theorem n : True := trivial
theorem i : True := trivial
theorem k : True := trivial
theorem q : True := trivial
theorem u : True := trivial
theorem v : True := trivial
theorem w : True := trivial
theorem j : True := trivial
theorem o : True := trivial
theorem a : True := trivial
theorem b : True := trivial
theorem y : True := trivial
theorem z : True := trivial
theorem r : True := trivial
theorem t : True := trivial
theorem f : True := trivial
theorem g : True := trivial
theorem o2 : True := trivial
theorem a2 : True := trivial
theorem hlt : True := trivial
theorem hltk : True := trivial
theorem hlt3 : True := trivial
theorem hlt4 : True := trivial
theorem hn : True := trivial
theorem hq : True := trivial
theorem hm : True := trivial
theorem hi : True := trivial
theorem hi2 : True := trivial
theorem hi3 : True := trivial
theorem hk : True := trivial
theorem hj : True := trivial
theorem hb : True := trivial
theorem hs : True := trivial
theorem hw : True := trivial
theorem hx : True := trivial
theorem hz : True := trivial
theorem hv : True := trivial
theorem hr : True := trivial
theorem hc : True := trivial
theorem hu : True := trivial
theorem hp : True := trivial
theorem hl : True := trivial
theorem hh : True := trivial
theorem e : True := trivial
theorem e9 : True := trivial
theorem sh : True := trivial
theorem a0 : True := trivial
theorem c9 : True := trivial
theorem k9 : True := trivial
theorem m9 : True := trivial
theorem mm : True := trivial
theorem ha : True := trivial
theorem ho : True := trivial
theorem hS : True := trivial
theorem ha0 : True := trivial
theorem hs9 : True := trivial
theorem hk0 : True := trivial
theorem hk1 : True := trivial
theorem hk9 : True := trivial
theorem hap : True := trivial
theorem hoo : True := trivial
theorem qh : True := trivial
theorem ex : True := trivial
theorem ih : True := trivial
theorem ihk : True := trivial
theorem ih1 : True := trivial
theorem ih2 : True := trivial
theorem ih3 : True := trivial
theorem ih4 : True := trivial
theorem ihj : True := trivial
theorem st : True := trivial
theorem lst : True := trivial
theorem args0 : True := trivial
theorem hcn : True := trivial
theorem hcir : True := trivial
theorem q8 : True := trivial
theorem z8 : True := trivial
theorem h0 : True := trivial
theorem h1 : True := trivial
theorem h2 : True := trivial
theorem h3 : True := trivial
theorem h4 : True := trivial
theorem h5 : True := trivial
theorem h7 : True := trivial
theorem h10 : True := trivial
theorem h11 : True := trivial
theorem h12 : True := trivial
theorem h13 : True := trivial
theorem h14 : True := trivial
theorem h15 : True := trivial
theorem h16 : True := trivial
theorem h17 : True := trivial
theorem h18 : True := trivial
theorem h19 : True := trivial
theorem h20 : True := trivial
theorem h21 : True := trivial
theorem h22 : True := trivial
theorem h23 : True := trivial
theorem h24 : True := trivial
theorem h25 : True := trivial
theorem h26 : True := trivial
theorem h27 : True := trivial
theorem h28 : True := trivial
theorem h29 : True := trivial
theorem h30 : True := trivial
theorem h31 : True := trivial
theorem h32 : True := trivial
theorem h33 : True := trivial
theorem h34 : True := trivial
theorem h35 : True := trivial
theorem h36 : True := trivial
theorem h37 : True := trivial
theorem h38 : True := trivial
theorem h39 : True := trivial
theorem h40 : True := trivial
theorem h41 : True := trivial
theorem h42 : True := trivial
theorem h43 : True := trivial
theorem h44 : True := trivial
theorem h45 : True := trivial
theorem h46 : True := trivial
theorem h47 : True := trivial
theorem h48 : True := trivial
theorem h49 : True := trivial
theorem h50 : True := trivial
theorem h51 : True := trivial
theorem h52 : True := trivial
theorem h53 : True := trivial
theorem h54 : True := trivial
theorem h55 : True := trivial
theorem h56 : True := trivial
theorem h57 : True := trivial
theorem h58 : True := trivial
theorem h59 : True := trivial
theorem h60 : True := trivial
theorem h61 : True := trivial
theorem h62 : True := trivial
theorem h63 : True := trivial
theorem h64 : True := trivial
theorem h65 : True := trivial
theorem h66 : True := trivial
theorem h67 : True := trivial
theorem h68 : True := trivial
theorem h69 : True := trivial
theorem h70 : True := trivial
theorem h71 : True := trivial
theorem h72 : True := trivial
theorem h73 : True := trivial
theorem h74 : True := trivial
theorem h75 : True := trivial
theorem h76 : True := trivial
theorem h77 : True := trivial
theorem h78 : True := trivial
theorem h79 : True := trivial
theorem h80 : True := trivial
theorem h81 : True := trivial
theorem h82 : True := trivial
theorem h83 : True := trivial
theorem h84 : True := trivial
theorem h85 : True := trivial
theorem h86 : True := trivial
theorem h87 : True := trivial
theorem h88 : True := trivial
theorem h89 : True := trivial
theorem h90 : True := trivial
theorem h91 : True := trivial
theorem h92 : True := trivial
theorem h93 : True := trivial
theorem h94 : True := trivial
theorem h95 : True := trivial
theorem h96 : True := trivial
theorem h97 : True := trivial
theorem h98 : True := trivial
theorem h99 : True := trivial
theorem h100 : True := trivial
theorem h101 : True := trivial
theorem h102 : True := trivial
theorem h103 : True := trivial
theorem h104 : True := trivial
theorem h105 : True := trivial
theorem h106 : True := trivial
theorem h107 : True := trivial
theorem h108 : True := trivial
theorem h109 : True := trivial
theorem h110 : True := trivial
theorem h111 : True := trivial
theorem h112 : True := trivial
theorem h113 : True := trivial
theorem h114 : True := trivial
theorem h115 : True := trivial
theorem h116 : True := trivial
theorem h117 : True := trivial
theorem h118 : True := trivial
theorem h119 : True := trivial
theorem h120 : True := trivial
theorem h121 : True := trivial
theorem h122 : True := trivial
theorem h123 : True := trivial
theorem h124 : True := trivial
theorem h125 : True := trivial
theorem h126 : True := trivial
theorem h127 : True := trivial
theorem h128 : True := trivial
theorem h129 : True := trivial
theorem h130 : True := trivial
theorem h131 : True := trivial
theorem h132 : True := trivial
theorem h133 : True := trivial
theorem h134 : True := trivial
theorem h135 : True := trivial
theorem h136 : True := trivial
theorem h137 : True := trivial
theorem h138 : True := trivial
theorem h139 : True := trivial
theorem h140 : True := trivial
theorem h141 : True := trivial
theorem h142 : True := trivial
theorem h143 : True := trivial
theorem h144 : True := trivial
theorem h145 : True := trivial
theorem h146 : True := trivial
theorem h147 : True := trivial
theorem h148 : True := trivial
theorem h149 : True := trivial
theorem h150 : True := trivial
theorem h151 : True := trivial
theorem h152 : True := trivial
theorem h153 : True := trivial
theorem h154 : True := trivial
theorem h155 : True := trivial
theorem h156 : True := trivial
theorem h157 : True := trivial
theorem h158 : True := trivial
theorem h159 : True := trivial
theorem h160 : True := trivial
theorem h161 : True := trivial
theorem h162 : True := trivial
theorem h163 : True := trivial
theorem h164 : True := trivial
theorem h165 : True := trivial
theorem h166 : True := trivial
theorem h167 : True := trivial
theorem h168 : True := trivial
theorem h169 : True := trivial
theorem h170 : True := trivial
theorem h171 : True := trivial
theorem h172 : True := trivial
theorem h173 : True := trivial
theorem h174 : True := trivial
theorem h175 : True := trivial
theorem h176 : True := trivial
theorem h177 : True := trivial
theorem h178 : True := trivial
theorem h179 : True := trivial
theorem h180 : True := trivial
theorem h181 : True := trivial
theorem h182 : True := trivial
theorem h183 : True := trivial
theorem h184 : True := trivial
theorem h185 : True := trivial
theorem h186 : True := trivial
theorem h187 : True := trivial
theorem h188 : True := trivial
theorem h189 : True := trivial
theorem h190 : True := trivial
theorem h191 : True := trivial
theorem h192 : True := trivial
theorem h193 : True := trivial
theorem h194 : True := trivial
theorem h195 : True := trivial
theorem h196 : True := trivial
theorem h197 : True := trivial
theorem h198 : True := trivial
theorem h199 : True := trivial
theorem L0 : True := trivial
theorem L1 : True := trivial
theorem L2 : True := trivial
theorem L3 : True := trivial
theorem L4 : True := trivial
theorem L5 : True := trivial
theorem L6 : True := trivial
theorem L7 : True := trivial
theorem L8 : True := trivial
theorem L9 : True := trivial
theorem L10 : True := trivial
theorem L11 : True := trivial
theorem L12 : True := trivial
theorem L13 : True := trivial
theorem L14 : True := trivial
theorem L15 : True := trivial
theorem L16 : True := trivial
theorem L17 : True := trivial
theorem L18 : True := trivial
theorem L19 : True := trivial
theorem L20 : True := trivial
theorem L21 : True := trivial
theorem L22 : True := trivial
theorem L23 : True := trivial
theorem L24 : True := trivial
theorem L25 : True := trivial
theorem L26 : True := trivial
theorem L27 : True := trivial
theorem L28 : True := trivial
theorem L29 : True := trivial
theorem L30 : True := trivial
theorem L31 : True := trivial
theorem L32 : True := trivial
theorem L33 : True := trivial
theorem L34 : True := trivial
theorem L35 : True := trivial
theorem L36 : True := trivial
theorem L37 : True := trivial
theorem L38 : True := trivial
theorem L39 : True := trivial
theorem L40 : True := trivial
theorem L41 : True := trivial
theorem L42 : True := trivial
theorem L43 : True := trivial
theorem L44 : True := trivial
theorem L45 : True := trivial
theorem L46 : True := trivial
theorem L47 : True := trivial
theorem L48 : True := trivial
theorem L49 : True := trivial
theorem L50 : True := trivial
theorem L51 : True := trivial
theorem L52 : True := trivial
theorem L53 : True := trivial
theorem L54 : True := trivial
theorem L55 : True := trivial
theorem L56 : True := trivial
theorem L57 : True := trivial
theorem L58 : True := trivial
theorem L59 : True := trivial
theorem L60 : True := trivial
theorem L61 : True := trivial
theorem L62 : True := trivial
theorem L63 : True := trivial
theorem L64 : True := trivial
theorem L65 : True := trivial
theorem L66 : True := trivial
theorem L67 : True := trivial
theorem L68 : True := trivial
theorem L69 : True := trivial
theorem L70 : True := trivial
theorem L71 : True := trivial
theorem L72 : True := trivial
theorem L73 : True := trivial
theorem L74 : True := trivial
theorem L75 : True := trivial
theorem L76 : True := trivial
theorem L77 : True := trivial
theorem L78 : True := trivial
theorem L79 : True := trivial
theorem L80 : True := trivial
theorem L81 : True := trivial
theorem L82 : True := trivial
theorem L83 : True := trivial
theorem L84 : True := trivial
theorem L85 : True := trivial
theorem L86 : True := trivial
theorem L87 : True := trivial
theorem L88 : True := trivial
theorem L89 : True := trivial
theorem L90 : True := trivial
theorem L91 : True := trivial
theorem L92 : True := trivial
theorem L93 : True := trivial
theorem L94 : True := trivial
theorem L95 : True := trivial
theorem L96 : True := trivial
theorem L97 : True := trivial
theorem L98 : True := trivial
theorem L99 : True := trivial
theorem L100 : True := trivial
theorem L101 : True := trivial
theorem L102 : True := trivial
theorem L103 : True := trivial
theorem L104 : True := trivial
theorem L105 : True := trivial
theorem L106 : True := trivial
theorem L107 : True := trivial
theorem L108 : True := trivial
theorem L109 : True := trivial
theorem L110 : True := trivial
theorem L111 : True := trivial
theorem L112 : True := trivial
theorem L113 : True := trivial
theorem L114 : True := trivial
theorem L115 : True := trivial
theorem L116 : True := trivial
theorem L117 : True := trivial
theorem L118 : True := trivial
theorem L119 : True := trivial
theorem L120 : True := trivial
theorem L121 : True := trivial
theorem L122 : True := trivial
theorem L123 : True := trivial
theorem L124 : True := trivial
theorem L125 : True := trivial
theorem L126 : True := trivial
theorem L127 : True := trivial
theorem L128 : True := trivial
theorem L129 : True := trivial
theorem L130 : True := trivial
theorem L131 : True := trivial
theorem L132 : True := trivial
theorem L133 : True := trivial
theorem L134 : True := trivial
theorem L135 : True := trivial
theorem L136 : True := trivial
theorem L137 : True := trivial
theorem L138 : True := trivial
theorem L139 : True := trivial
theorem L140 : True := trivial
theorem L141 : True := trivial
theorem L142 : True := trivial
theorem L143 : True := trivial
theorem L144 : True := trivial
theorem L145 : True := trivial
theorem L146 : True := trivial
theorem L147 : True := trivial
theorem L148 : True := trivial
theorem L149 : True := trivial
theorem L150 : True := trivial
theorem L151 : True := trivial
theorem L152 : True := trivial
theorem L153 : True := trivial
theorem L154 : True := trivial
theorem L155 : True := trivial
theorem L156 : True := trivial
theorem L157 : True := trivial
theorem L158 : True := trivial
theorem L159 : True := trivial
theorem L160 : True := trivial
theorem L161 : True := trivial
theorem L162 : True := trivial
theorem L163 : True := trivial
theorem L164 : True := trivial
theorem L165 : True := trivial
theorem L166 : True := trivial
theorem L167 : True := trivial
theorem L168 : True := trivial
theorem L169 : True := trivial
theorem L170 : True := trivial
theorem L171 : True := trivial
theorem L172 : True := trivial
theorem L173 : True := trivial
theorem L174 : True := trivial
theorem L175 : True := trivial
theorem L176 : True := trivial
theorem L177 : True := trivial
theorem L178 : True := trivial
theorem L179 : True := trivial
theorem L180 : True := trivial
theorem L181 : True := trivial
theorem L182 : True := trivial
theorem L183 : True := trivial
theorem L184 : True := trivial
theorem L185 : True := trivial
theorem L186 : True := trivial
theorem L187 : True := trivial
theorem L188 : True := trivial
theorem L189 : True := trivial
theorem L190 : True := trivial
theorem L191 : True := trivial
theorem L192 : True := trivial
theorem L193 : True := trivial
theorem L194 : True := trivial
theorem L195 : True := trivial
theorem L196 : True := trivial
theorem L197 : True := trivial
theorem L198 : True := trivial
theorem L199 : True := trivial
-- STAND-INS
theorem tp_vp_ge {tx : Nat → Nat} {L pp w : Nat} (h : tp_vo tx L pp = true) (hw : 1 ≤ w) : pp + 2 ≤ tp_vp tx L pp w := by
  obtain ⟨h1, h2⟩ := x_and_of h
  unfold tp_vp
  rw [if_pos h1, if_pos h2]
  have e : ∀ k, 1 ≤ k → 1 ≤ tp_dc tx L (pp + 1) k := by
    intro k hk
    induction k with
    | zero => omega
    | succ k ih =>
      rw [tp_dc]
      split
      · omega
      · rename_i z
        rcases Nat.eq_zero_or_pos k with e0 | e0
        · subst e0
          exact absurd ⟨rfl, h2⟩ z
        · exact ih e0
  have := e w hw
  omega
theorem tp_ap_ge {tx : Nat → Nat} {L v q : Nat} : ∀ a, tp_af tx L v q a = a → q + 2 * a ≤ tp_ap tx L v q a
  | 0, _ => Nat.le_refl _
  | a + 1, h => by
    have h0 := tp_af_pre tx L v q (a + 1) a (by omega)
    have h1 := tp_ap_ge a h0
    have h2 : tp_vo tx L (tp_ap tx L v q a) = true := by
      by_cases z : tp_vo tx L (tp_ap tx L v q a) = true
      · exact z
      · have := tp_af_stop tx L v q a z h0 (a + 1) (by omega)
        omega
    have h3 := tp_vp_ge (w := tp_m v a) h2 (tp_m_le v a).1
    rw [tp_ap]
    omega
theorem tp_len3 : ∀ v, v < 13 → 3 ≤ x_wL v + 2 * tp_vn v := by decide +kernel
theorem tp_ce_ge {tx : Nat → Nat} {L pp : Nat} (h : tp_co tx L pp) : pp + 3 ≤ tp_ce tx L pp := by
  have h1 := tp_ap_ge _ h.2
  have h2 := tp_len3 _ h.1
  unfold tp_ce
  rw [if_pos h.1, if_pos h.2]
  omega

/-! the whole text -/
def tp_q (tx : Nat → Nat) (L pp : Nat) : Nat := pp + x_wL (tp_vb tx L pp)
def tp_af9 (tx : Nat → Nat) (L pp : Nat) : Nat := tp_af tx L (tp_vb tx L pp) (pp + x_wL (tp_vb tx L pp)) (tp_vn (tp_vb tx L pp))
def t_rx (d : xd) (tx : Nat → Nat) (L pp c k k2 : Nat) : xd := t_w d (nI (tp_ap tx L (tp_vb tx L pp) (pp + x_wL (tp_vb tx L pp)) k2)) c (nI (tp_vb tx L pp + 1)) (nI (tp_r1 tx L (tp_vb tx L pp) (pp + x_wL (tp_vb tx L pp)) k)) (nI (tp_r2 tx L (tp_vb tx L pp) (pp + x_wL (tp_vb tx L pp)) k))
/-- behind a whole command at pp; behind a broken one -/
def t_rc (d : xd) (tx : Nat → Nat) (L pp c : Nat) : xd := t_rx d tx L pp c (tp_vn (tp_vb tx L pp)) (tp_vn (tp_vb tx L pp))
def t_rf (d : xd) (tx : Nat → Nat) (L pp c : Nat) : xd := if tp_vb tx L pp < 13 then t_rx d tx L pp c (tp_af9 tx L pp) (tp_af9 tx L pp + 1) else x_p d 168 2 (nI (pp + tp_mx tx L pp 13))
def t_pa (d : xd) (tx : Nat → Nat) (L : Nat) : Nat → xd
  | 0 => x_p (x_p d 168 2 0) 168 3 0
  | c + 1 => x_p (x_p (t_rc (t_pa d tx L c) tx L (tp_P tx L c) c) 168 3 (nI (c + 1))) 168 2 (nI (tp_ce tx L (tp_P tx L c) + 1))
theorem t_rx_out {d : xd} {tx : Nat → Nat} {L pp c w w2 k : Nat} (h : k ≠ 168) (h2 : k < 170 ∨ 172 < k) : t_rx d tx L pp c w w2 k = d k := t_w_out h h2
theorem t_rx_1 {d : xd} {tx : Nat → Nat} {L pp c w w2 j : Nat} (h : j ≠ 2) : t_rx d tx L pp c w w2 168 j = d 168 j := t_w_1 h
theorem tp_ce_ok {tx : Nat → Nat} {L pp : Nat} (h : tp_co tx L pp) : tp_ap tx L (tp_vb tx L pp) (pp + x_wL (tp_vb tx L pp)) (tp_vn (tp_vb tx L pp)) = tp_ce tx L pp := by
  unfold tp_ce
  rw [if_pos h.1, if_pos h.2]
theorem t_rc_2 {d : xd} {tx : Nat → Nat} {L pp c : Nat} (h : tp_co tx L pp) : t_rc d tx L pp c 168 2 = nI (tp_ce tx L pp) := by
  rw [← tp_ce_ok h]
  unfold t_rc t_rx
  exact t_w_2
theorem t_pa_out {d : xd} {tx : Nat → Nat} {L k : Nat} (h : k ≠ 168) (h2 : k < 170 ∨ 172 < k) : ∀ c, t_pa d tx L c k = d k
  | 0 => by rw [t_pa, x_p_ne h, x_p_ne h]
  | c + 1 => by rw [t_pa, x_p_ne h, x_p_ne h, t_rc, t_rx_out h h2, t_pa_out h h2 c]
theorem t_pa_1 {d : xd} {tx : Nat → Nat} {L j : Nat} (h : j ≠ 2) (h2 : j ≠ 3) : ∀ c, t_pa d tx L c 168 j = d 168 j
  | 0 => by rw [t_pa, x_p_row h2, x_p_row h]
  | c + 1 => by rw [t_pa, x_p_row h, x_p_row h2, t_rc, t_rx_1 h, t_pa_1 h h2 c]
theorem t_pa_2 {d : xd} {tx : Nat → Nat} {L : Nat} : ∀ c, t_pa d tx L c 168 2 = nI (tp_P tx L c)
  | 0 => by rw [t_pa, x_p_row (by omega), x_p_at]; rfl
  | c + 1 => by rw [t_pa, x_p_at, tp_P]
theorem tp_ce_le {tx : Nat → Nat} {L pp : Nat} (hp : pp ≤ L) (h : tp_co tx L pp) : tp_ce tx L pp ≤ L := by
  rw [← tp_ce_ok h]
  exact tp_ap_le (tp_vb_in hp h.1 rfl) _
theorem tp_P_le {tx : Nat → Nat} {L : Nat} : ∀ c, (∀ j, j < c → tp_co tx L (tp_P tx L j) ∧ tp_c tx L (tp_ce tx L (tp_P tx L j)) 59 = true) → tp_P tx L c ≤ L
  | 0, _ => Nat.zero_le L
  | c + 1, h => by
    have h1 := tp_c_lt (h c (by omega)).2
    rw [tp_P]
    omega
theorem tp_P_ge {tx : Nat → Nat} {L : Nat} : ∀ c, (∀ j, j < c → tp_co tx L (tp_P tx L j)) → 4 * c ≤ tp_P tx L c + 0 * L
  | 0, _ => Nat.zero_le _
  | c + 1, h => by
    have h1 := tp_P_ge c (fun j hj => h j (by omega))
    have h2 := h c (by omega)
    have h3 := tp_ce_ge h2
    rw [tp_P]
    omega

theorem x_13 {v : Nat} (h : v ≤ 13) (h2 : ¬ v < 13) : v = 13 := by omega
set_option maxHeartbeats 1000000 in
set_option maxRecDepth 100000 in
theorem c_T_parse_ok (l : Launch) (G : xG) (d : xd) (tx : Nat → Nat) (L : Nat) (hL : L ≤ 60) (hln : d 168 1 = nI L) (htx : ∀ j, j < L → d 169 j = nI (tx j)) (ht7 : ∀ j, j < L → tx j < 128) (k9 : Nat) (hgood : ∀ j, j < k9 → tp_co tx L (tp_P tx L j) ∧ tp_c tx L (tp_ce tx L (tp_P tx L j)) 59 = true) (hk9 : k9 < 15) (hco : tp_co tx L (tp_P tx L k9)) (hend : L ≤ tp_ce tx L (tp_P tx L k9)) : x_M G l yX3_parse wsX3_parse 8 0 0 [.ref (x_b G + 168)] d (some (.int 1)) (x_p (t_rc (t_pa d tx L k9) tx L (tp_P tx L k9) k9) 168 3 (nI (k9 + 1))) := by
  have iX3 : ∀ w ∈ u_ws RX3 TX3 7, w ∈ wsX3_parse := by decide +kernel
  refine x_start (cc := cX3_parse) (maxL := 2) (ret := (some .boolean)) (own := RX3) (by decide) rfl rfl (Nat.le_of_ble_eq_true rfl) (lst := [(0, .ref (x_b G + 168))]) rfl ?_
  intro p e s m args below meth c C hr hlocks
  refine a_aload_n C dX3_parse_0 0 rfl ?_
  refine a_iconst C dX3_parse_1 (v := 0) (by decide) ?_
  refine a_putI C (k := 168) iX3 tyX3_ok nmX3 x_k168 rfl (j := 2) rfl (by decide) (by decide +kernel) rfl (ty := .int) (by decide +kernel) rfl rfl dX3_parse_2 ?_
  refine a_aload_n C dX3_parse_5 0 rfl ?_
  refine a_iconst C dX3_parse_6 (v := 0) (by decide) ?_
  refine a_putI C (k := 168) iX3 tyX3_ok nmX3 x_k168 rfl (j := 3) rfl (by decide) (by decide +kernel) rfl (ty := .int) (by decide +kernel) rfl rfl dX3_parse_7 ?_
  refine a_iconst C dX3_parse_10 (v := 0) (by decide) ?_
  refine a_istore_n C dX3_parse_11 (by decide) (lst2 := [(1, .int 0), (0, .ref (x_b G + 168))]) rfl ?_
  have L12 : ∀ (j i : Nat), i ≤ k9 → k9 < i + j → Ab G p l e (x_rm 8 0 0) s m args below meth c 2 0 0 (MQ below (x_Q G (some (.int 1)) (x_p (t_rc (t_pa d tx L k9) tx L (tp_P tx L k9) k9) 168 3 (nI (k9 + 1)))) args s 0 0 (x_A G)) 12 [(1, .int (nI i)), (0, .ref (x_b G + 168))] [] (t_pa d tx L i) := by
    intro j
    induction j with
    | zero => intro i h1 h2; exact absurd h2 (by omega)
    | succ j ih =>
      intro i hi hj 
      refine a_iload_n C dX3_parse_12 0 rfl ?_
      refine a_bipush C dX3_parse_13 (v := 15) (by decide) ?_
      refine a_icmp_ge C dX3_parse_15 (tgt := 65) (by decide) (fun h => absurd h (nI_ge (b := 15) (by omega) (by omega))) (fun h15 => ?_)
      refine a_aload_n C dX3_parse_18 1 rfl ?_
      refine a_iload_n C dX3_parse_19 0 rfl ?_
      have hpl := tp_P_le i (fun j hj => hgood j (by omega))
      rcases Nat.lt_or_ge i k9 with hik | hik
      · skip
        obtain ⟨hco, h59⟩ := hgood i hik
        have hce := tp_ce_le hpl hco
        refine a_callV C (k := 168) (As := [.int (nI i)]) (rest := []) (c_T_readCommand_t l G (t_pa d tx L i) tx L hL (t_pa_1 (by omega) (by omega) i |>.trans hln) (fun j hj => by rw [t_pa_out (by omega) (by omega)]; exact htx j hj) ht7 (tp_P tx L i) (t_pa_2 i) hpl i (by omega) (tp_vb tx L (tp_P tx L i)) hco.1 rfl hco.2) (cwV 1 C.1.2.2.2.2 gX3_parse_X3_readCommand rfl rfl rfl (by decide +kernel) ⟨Nat.le_of_ble_eq_true rfl, Nat.le_of_ble_eq_true rfl⟩) x_k168 (q := (RX3, TX3, 7)) rfl rfl rfl rfl (Nat.le_of_ble_eq_true rfl) dX3_parse_20 ⟨Nat.le_of_ble_eq_true rfl, Nat.le_of_ble_eq_true rfl⟩ ?_
        refine a_toD (d2 := t_rc (t_pa d tx L i) tx L (tp_P tx L i) i) rfl ?_
        have hlt := tp_c_lt h59
        refine a_if_ne C dX3_parse_23 (tgt := 28) (by decide) (fun _ => ?_) (fun h => absurd h (by decide))
        refine a_aload_n C dX3_parse_28 1 rfl ?_
        refine a_iload_n C dX3_parse_29 0 rfl ?_
        refine a_iconst C dX3_parse_30 (v := 1) (by decide) ?_
        refine a_iadd C dX3_parse_31 ?_
        refine a_top (y := (nI (i + 1))) (nI_1 i) ?_
        refine a_putI C (k := 168) iX3 tyX3_ok nmX3 x_k168 rfl (j := 3) rfl (by decide) (by decide +kernel) rfl (ty := .int) (by decide +kernel) rfl rfl dX3_parse_32 ?_
        refine a_aload_n C dX3_parse_35 1 rfl ?_
        refine a_getI C (k := 168) iX3 x_k168 rfl (j := 2) rfl (by decide) (by decide +kernel) dX3_parse_36 ?_
        refine a_top (y := ((t_rc (t_pa d tx L i) tx L (tp_P tx L i) i) 168 2)) (by first | rw [x_p_row (by omega)] | rfl) ?_
        refine a_top (y := (nI (tp_ce tx L (tp_P tx L i)))) (t_rc_2 hco) ?_
        refine a_aload_n C dX3_parse_39 1 rfl ?_
        refine a_getI C (k := 168) iX3 x_k168 rfl (j := 1) rfl (by decide) (by decide +kernel) dX3_parse_40 ?_
        refine a_top (y := ((t_rc (t_pa d tx L i) tx L (tp_P tx L i) i) 168 1)) (by first | rw [x_p_row (by omega)] | rfl) ?_
        refine a_top (y := (nI L)) ((t_rx_1 (by omega)).trans ((t_pa_1 (by omega) (by omega) i).trans hln)) ?_
        refine a_icmp_lt C dX3_parse_43 (tgt := 48) (by decide) (fun h43 => ?_) (fun h => False.elim (h (nI_lt hlt (by omega))))
        refine a_aload_n C dX3_parse_48 1 rfl ?_
        refine a_bipush C dX3_parse_49 (v := 59) (by decide) ?_
        refine a_callV C (k := 168) (As := [.int 59]) (rest := []) (c_T_readCharacter_t l G (x_p (t_rc (t_pa d tx L i) tx L (tp_P tx L i) i) 168 3 (nI (i + 1))) tx L hL (by rw [x_p_row (by omega)]; exact (t_rx_1 (by omega)).trans ((t_pa_1 (by omega) (by omega) i).trans hln)) (fun j hj => by rw [x_p_ne (by omega)]; exact (congrFun (t_rx_out (by omega) (by omega)) j).trans ((congrFun (t_pa_out (by omega) (by omega) i) j).trans (htx j hj))) ht7 (tp_ce tx L (tp_P tx L i)) (by rw [x_p_row (by omega)]; exact t_rc_2 hco) hce 59 (by omega) h59) (cwV 1 C.1.2.2.2.2 gX3_parse_X3_readCharacter rfl rfl rfl (by decide +kernel) ⟨Nat.le_of_ble_eq_true rfl, Nat.le_of_ble_eq_true rfl⟩) x_k168 (q := (RX3, TX3, 7)) rfl rfl rfl rfl (Nat.le_of_ble_eq_true rfl) dX3_parse_51 ⟨Nat.le_of_ble_eq_true rfl, Nat.le_of_ble_eq_true rfl⟩ ?_
        refine a_if_ne C dX3_parse_54 (tgt := 59) (by decide) (fun _ => ?_) (fun h => absurd h (by decide))
        refine a_iinc C dX3_parse_59 0 rfl (v := (nI (i + 1))) (x_inc i) (by decide) (lst2 := [(1, .int (nI (i + 1))), (0, .ref (x_b G + 168))]) rfl ?_
        refine a_goto C dX3_parse_62 (tgt := 12) (by decide) ?_
        refine a_sub (lst2 := [(1, .int (nI (i + 1))), (0, .ref (x_b G + 168))]) [0, 1] rfl ?_
        refine a_to (lst2 := [(1, .int (nI ((i + 1)))), (0, .ref (x_b G + 168))]) (st2 := []) (d2 := t_pa d tx L ((i + 1))) rfl rfl rfl ?_
        exact ih (i + 1) (by omega) (by omega) 
      · skip
        have e9 : k9 = i := by omega
        subst e9
        have hce := tp_ce_le hpl hco
        refine a_callV C (k := 168) (As := [.int (nI k9)]) (rest := []) (c_T_readCommand_t l G (t_pa d tx L k9) tx L hL (t_pa_1 (by omega) (by omega) k9 |>.trans hln) (fun j hj => by rw [t_pa_out (by omega) (by omega)]; exact htx j hj) ht7 (tp_P tx L k9) (t_pa_2 k9) hpl k9 (by omega) (tp_vb tx L (tp_P tx L k9)) hco.1 rfl hco.2) (cwV 1 C.1.2.2.2.2 gX3_parse_X3_readCommand rfl rfl rfl (by decide +kernel) ⟨Nat.le_of_ble_eq_true rfl, Nat.le_of_ble_eq_true rfl⟩) x_k168 (q := (RX3, TX3, 7)) rfl rfl rfl rfl (Nat.le_of_ble_eq_true rfl) dX3_parse_20 ⟨Nat.le_of_ble_eq_true rfl, Nat.le_of_ble_eq_true rfl⟩ ?_
        refine a_toD (d2 := t_rc (t_pa d tx L k9) tx L (tp_P tx L k9) k9) rfl ?_
        refine a_if_ne C dX3_parse_23 (tgt := 28) (by decide) (fun _ => ?_) (fun h => absurd h (by decide))
        refine a_aload_n C dX3_parse_28 1 rfl ?_
        refine a_iload_n C dX3_parse_29 0 rfl ?_
        refine a_iconst C dX3_parse_30 (v := 1) (by decide) ?_
        refine a_iadd C dX3_parse_31 ?_
        refine a_top (y := (nI (k9 + 1))) (nI_1 k9) ?_
        refine a_putI C (k := 168) iX3 tyX3_ok nmX3 x_k168 rfl (j := 3) rfl (by decide) (by decide +kernel) rfl (ty := .int) (by decide +kernel) rfl rfl dX3_parse_32 ?_
        refine a_aload_n C dX3_parse_35 1 rfl ?_
        refine a_getI C (k := 168) iX3 x_k168 rfl (j := 2) rfl (by decide) (by decide +kernel) dX3_parse_36 ?_
        refine a_top (y := ((t_rc (t_pa d tx L k9) tx L (tp_P tx L k9) k9) 168 2)) (by first | rw [x_p_row (by omega)] | rfl) ?_
        refine a_top (y := (nI (tp_ce tx L (tp_P tx L k9)))) (t_rc_2 hco) ?_
        refine a_aload_n C dX3_parse_39 1 rfl ?_
        refine a_getI C (k := 168) iX3 x_k168 rfl (j := 1) rfl (by decide) (by decide +kernel) dX3_parse_40 ?_
        refine a_top (y := ((t_rc (t_pa d tx L k9) tx L (tp_P tx L k9) k9) 168 1)) (by first | rw [x_p_row (by omega)] | rfl) ?_
        refine a_top (y := (nI L)) ((t_rx_1 (by omega)).trans ((t_pa_1 (by omega) (by omega) k9).trans hln)) ?_
        refine a_icmp_lt C dX3_parse_43 (tgt := 48) (by decide) (fun h => absurd h (nI_nlt hend (by omega))) (fun h43 => ?_)
        refine a_iconst C dX3_parse_46 (v := 1) (by decide) ?_
        exact a_zret C hlocks hr rfl dX3_parse_47 rfl rfl
  refine a_sub (lst2 := [(1, .int 0), (0, .ref (x_b G + 168))]) [0, 1] rfl ?_
  exact L12 (k9 + 1) 0 (by omega) (by omega) 

set_option maxHeartbeats 1000000 in
set_option maxRecDepth 100000 in
theorem c_T_parse_bad1 (l : Launch) (G : xG) (d : xd) (tx : Nat → Nat) (L : Nat) (hL : L ≤ 60) (hln : d 168 1 = nI L) (htx : ∀ j, j < L → d 169 j = nI (tx j)) (ht7 : ∀ j, j < L → tx j < 128) (k9 : Nat) (hgood : ∀ j, j < k9 → tp_co tx L (tp_P tx L j) ∧ tp_c tx L (tp_ce tx L (tp_P tx L j)) 59 = true) (hk9 : k9 < 15) (hbad : ¬ tp_co tx L (tp_P tx L k9)) : x_M G l yX3_parse wsX3_parse 8 0 0 [.ref (x_b G + 168)] d (some (.int 0)) (t_rf (t_pa d tx L k9) tx L (tp_P tx L k9) k9) := by
  have iX3 : ∀ w ∈ u_ws RX3 TX3 7, w ∈ wsX3_parse := by decide +kernel
  refine x_start (cc := cX3_parse) (maxL := 2) (ret := (some .boolean)) (own := RX3) (by decide) rfl rfl (Nat.le_of_ble_eq_true rfl) (lst := [(0, .ref (x_b G + 168))]) rfl ?_
  intro p e s m args below meth c C hr hlocks
  refine a_aload_n C dX3_parse_0 0 rfl ?_
  refine a_iconst C dX3_parse_1 (v := 0) (by decide) ?_
  refine a_putI C (k := 168) iX3 tyX3_ok nmX3 x_k168 rfl (j := 2) rfl (by decide) (by decide +kernel) rfl (ty := .int) (by decide +kernel) rfl rfl dX3_parse_2 ?_
  refine a_aload_n C dX3_parse_5 0 rfl ?_
  refine a_iconst C dX3_parse_6 (v := 0) (by decide) ?_
  refine a_putI C (k := 168) iX3 tyX3_ok nmX3 x_k168 rfl (j := 3) rfl (by decide) (by decide +kernel) rfl (ty := .int) (by decide +kernel) rfl rfl dX3_parse_7 ?_
  refine a_iconst C dX3_parse_10 (v := 0) (by decide) ?_
  refine a_istore_n C dX3_parse_11 (by decide) (lst2 := [(1, .int 0), (0, .ref (x_b G + 168))]) rfl ?_
  have L12 : ∀ (j i : Nat), i ≤ k9 → k9 < i + j → Ab G p l e (x_rm 8 0 0) s m args below meth c 2 0 0 (MQ below (x_Q G (some (.int 0)) (t_rf (t_pa d tx L k9) tx L (tp_P tx L k9) k9)) args s 0 0 (x_A G)) 12 [(1, .int (nI i)), (0, .ref (x_b G + 168))] [] (t_pa d tx L i) := by
    intro j
    induction j with
    | zero => intro i h1 h2; exact absurd h2 (by omega)
    | succ j ih =>
      intro i hi hj 
      refine a_iload_n C dX3_parse_12 0 rfl ?_
      refine a_bipush C dX3_parse_13 (v := 15) (by decide) ?_
      refine a_icmp_ge C dX3_parse_15 (tgt := 65) (by decide) (fun h => absurd h (nI_ge (b := 15) (by omega) (by omega))) (fun h15 => ?_)
      refine a_aload_n C dX3_parse_18 1 rfl ?_
      refine a_iload_n C dX3_parse_19 0 rfl ?_
      have hpl := tp_P_le i (fun j hj => hgood j (by omega))
      rcases Nat.lt_or_ge i k9 with hik | hik
      · skip
        obtain ⟨hco, h59⟩ := hgood i hik
        have hce := tp_ce_le hpl hco
        refine a_callV C (k := 168) (As := [.int (nI i)]) (rest := []) (c_T_readCommand_t l G (t_pa d tx L i) tx L hL (t_pa_1 (by omega) (by omega) i |>.trans hln) (fun j hj => by rw [t_pa_out (by omega) (by omega)]; exact htx j hj) ht7 (tp_P tx L i) (t_pa_2 i) hpl i (by omega) (tp_vb tx L (tp_P tx L i)) hco.1 rfl hco.2) (cwV 1 C.1.2.2.2.2 gX3_parse_X3_readCommand rfl rfl rfl (by decide +kernel) ⟨Nat.le_of_ble_eq_true rfl, Nat.le_of_ble_eq_true rfl⟩) x_k168 (q := (RX3, TX3, 7)) rfl rfl rfl rfl (Nat.le_of_ble_eq_true rfl) dX3_parse_20 ⟨Nat.le_of_ble_eq_true rfl, Nat.le_of_ble_eq_true rfl⟩ ?_
        refine a_toD (d2 := t_rc (t_pa d tx L i) tx L (tp_P tx L i) i) rfl ?_
        have hlt := tp_c_lt h59
        refine a_if_ne C dX3_parse_23 (tgt := 28) (by decide) (fun _ => ?_) (fun h => absurd h (by decide))
        refine a_aload_n C dX3_parse_28 1 rfl ?_
        refine a_iload_n C dX3_parse_29 0 rfl ?_
        refine a_iconst C dX3_parse_30 (v := 1) (by decide) ?_
        refine a_iadd C dX3_parse_31 ?_
        refine a_top (y := (nI (i + 1))) (nI_1 i) ?_
        refine a_putI C (k := 168) iX3 tyX3_ok nmX3 x_k168 rfl (j := 3) rfl (by decide) (by decide +kernel) rfl (ty := .int) (by decide +kernel) rfl rfl dX3_parse_32 ?_
        refine a_aload_n C dX3_parse_35 1 rfl ?_
        refine a_getI C (k := 168) iX3 x_k168 rfl (j := 2) rfl (by decide) (by decide +kernel) dX3_parse_36 ?_
        refine a_top (y := ((t_rc (t_pa d tx L i) tx L (tp_P tx L i) i) 168 2)) (by first | rw [x_p_row (by omega)] | rfl) ?_
        refine a_top (y := (nI (tp_ce tx L (tp_P tx L i)))) (t_rc_2 hco) ?_
        refine a_aload_n C dX3_parse_39 1 rfl ?_
        refine a_getI C (k := 168) iX3 x_k168 rfl (j := 1) rfl (by decide) (by decide +kernel) dX3_parse_40 ?_
        refine a_top (y := ((t_rc (t_pa d tx L i) tx L (tp_P tx L i) i) 168 1)) (by first | rw [x_p_row (by omega)] | rfl) ?_
        refine a_top (y := (nI L)) ((t_rx_1 (by omega)).trans ((t_pa_1 (by omega) (by omega) i).trans hln)) ?_
        refine a_icmp_lt C dX3_parse_43 (tgt := 48) (by decide) (fun h43 => ?_) (fun h => False.elim (h (nI_lt hlt (by omega))))
        refine a_aload_n C dX3_parse_48 1 rfl ?_
        refine a_bipush C dX3_parse_49 (v := 59) (by decide) ?_
        refine a_callV C (k := 168) (As := [.int 59]) (rest := []) (c_T_readCharacter_t l G (x_p (t_rc (t_pa d tx L i) tx L (tp_P tx L i) i) 168 3 (nI (i + 1))) tx L hL (by rw [x_p_row (by omega)]; exact (t_rx_1 (by omega)).trans ((t_pa_1 (by omega) (by omega) i).trans hln)) (fun j hj => by rw [x_p_ne (by omega)]; exact (congrFun (t_rx_out (by omega) (by omega)) j).trans ((congrFun (t_pa_out (by omega) (by omega) i) j).trans (htx j hj))) ht7 (tp_ce tx L (tp_P tx L i)) (by rw [x_p_row (by omega)]; exact t_rc_2 hco) hce 59 (by omega) h59) (cwV 1 C.1.2.2.2.2 gX3_parse_X3_readCharacter rfl rfl rfl (by decide +kernel) ⟨Nat.le_of_ble_eq_true rfl, Nat.le_of_ble_eq_true rfl⟩) x_k168 (q := (RX3, TX3, 7)) rfl rfl rfl rfl (Nat.le_of_ble_eq_true rfl) dX3_parse_51 ⟨Nat.le_of_ble_eq_true rfl, Nat.le_of_ble_eq_true rfl⟩ ?_
        refine a_if_ne C dX3_parse_54 (tgt := 59) (by decide) (fun _ => ?_) (fun h => absurd h (by decide))
        refine a_iinc C dX3_parse_59 0 rfl (v := (nI (i + 1))) (x_inc i) (by decide) (lst2 := [(1, .int (nI (i + 1))), (0, .ref (x_b G + 168))]) rfl ?_
        refine a_goto C dX3_parse_62 (tgt := 12) (by decide) ?_
        refine a_sub (lst2 := [(1, .int (nI (i + 1))), (0, .ref (x_b G + 168))]) [0, 1] rfl ?_
        refine a_to (lst2 := [(1, .int (nI ((i + 1)))), (0, .ref (x_b G + 168))]) (st2 := []) (d2 := t_pa d tx L ((i + 1))) rfl rfl rfl ?_
        exact ih (i + 1) (by omega) (by omega) 
      · skip
        have e9 : k9 = i := by omega
        subst e9
        by_cases hvb : tp_vb tx L (tp_P tx L k9) < 13
        · skip
          have haf : ¬ tp_af tx L (tp_vb tx L (tp_P tx L k9)) ((tp_P tx L k9) + x_wL (tp_vb tx L (tp_P tx L k9))) (tp_vn (tp_vb tx L (tp_P tx L k9))) = tp_vn (tp_vb tx L (tp_P tx L k9)) := fun z => hbad ⟨hvb, z⟩
          refine a_callV C (k := 168) (As := [.int (nI k9)]) (rest := []) (c_T_readCommand_f l G (t_pa d tx L k9) tx L hL (t_pa_1 (by omega) (by omega) k9 |>.trans hln) (fun j hj => by rw [t_pa_out (by omega) (by omega)]; exact htx j hj) ht7 (tp_P tx L k9) (t_pa_2 k9) hpl k9 (by omega) (tp_vb tx L (tp_P tx L k9)) hvb rfl haf) (cwV 1 C.1.2.2.2.2 gX3_parse_X3_readCommand rfl rfl rfl (by decide +kernel) ⟨Nat.le_of_ble_eq_true rfl, Nat.le_of_ble_eq_true rfl⟩) x_k168 (q := (RX3, TX3, 7)) rfl rfl rfl rfl (Nat.le_of_ble_eq_true rfl) dX3_parse_20 ⟨Nat.le_of_ble_eq_true rfl, Nat.le_of_ble_eq_true rfl⟩ ?_
          refine a_toD (d2 := t_rx (t_pa d tx L k9) tx L (tp_P tx L k9) k9 (tp_af9 tx L (tp_P tx L k9)) (tp_af9 tx L (tp_P tx L k9) + 1)) rfl ?_
          refine a_if_ne C dX3_parse_23 (tgt := 28) (by decide) (fun h => absurd h (by decide)) (fun _ => ?_)
          refine a_iconst C dX3_parse_26 (v := 0) (by decide) ?_
          exact a_zret C hlocks hr rfl dX3_parse_27 rfl (by unfold t_rf; rw [if_pos hvb])
        · skip
          refine a_callV C (k := 168) (As := [.int (nI k9)]) (rest := []) (c_T_readCommand_0 l G (t_pa d tx L k9) tx L hL (t_pa_1 (by omega) (by omega) k9 |>.trans hln) (fun j hj => by rw [t_pa_out (by omega) (by omega)]; exact htx j hj) ht7 (tp_P tx L k9) (t_pa_2 k9) hpl k9 (by omega) (x_13 (tp_vb_le tx L (tp_P tx L k9)) hvb)) (cwV 1 C.1.2.2.2.2 gX3_parse_X3_readCommand rfl rfl rfl (by decide +kernel) ⟨Nat.le_of_ble_eq_true rfl, Nat.le_of_ble_eq_true rfl⟩) x_k168 (q := (RX3, TX3, 7)) rfl rfl rfl rfl (Nat.le_of_ble_eq_true rfl) dX3_parse_20 ⟨Nat.le_of_ble_eq_true rfl, Nat.le_of_ble_eq_true rfl⟩ ?_
          refine a_if_ne C dX3_parse_23 (tgt := 28) (by decide) (fun h => absurd h (by decide)) (fun _ => ?_)
          refine a_iconst C dX3_parse_26 (v := 0) (by decide) ?_
          exact a_zret C hlocks hr rfl dX3_parse_27 rfl (by unfold t_rf; rw [if_neg hvb])
  refine a_sub (lst2 := [(1, .int 0), (0, .ref (x_b G + 168))]) [0, 1] rfl ?_
  exact L12 (k9 + 1) 0 (by omega) (by omega) 

set_option maxHeartbeats 1000000 in
set_option maxRecDepth 100000 in
theorem c_T_parse_bad2 (l : Launch) (G : xG) (d : xd) (tx : Nat → Nat) (L : Nat) (hL : L ≤ 60) (hln : d 168 1 = nI L) (htx : ∀ j, j < L → d 169 j = nI (tx j)) (ht7 : ∀ j, j < L → tx j < 128) (k9 : Nat) (hgood : ∀ j, j < k9 → tp_co tx L (tp_P tx L j) ∧ tp_c tx L (tp_ce tx L (tp_P tx L j)) 59 = true) (hk9 : k9 < 15) (hco : tp_co tx L (tp_P tx L k9)) (hlt : tp_ce tx L (tp_P tx L k9) < L) (hno : ¬ tp_c tx L (tp_ce tx L (tp_P tx L k9)) 59 = true) : x_M G l yX3_parse wsX3_parse 8 0 0 [.ref (x_b G + 168)] d (some (.int 0)) (x_p (t_rc (t_pa d tx L k9) tx L (tp_P tx L k9) k9) 168 3 (nI (k9 + 1))) := by
  have iX3 : ∀ w ∈ u_ws RX3 TX3 7, w ∈ wsX3_parse := by decide +kernel
  refine x_start (cc := cX3_parse) (maxL := 2) (ret := (some .boolean)) (own := RX3) (by decide) rfl rfl (Nat.le_of_ble_eq_true rfl) (lst := [(0, .ref (x_b G + 168))]) rfl ?_
  intro p e s m args below meth c C hr hlocks
  refine a_aload_n C dX3_parse_0 0 rfl ?_
  refine a_iconst C dX3_parse_1 (v := 0) (by decide) ?_
  refine a_putI C (k := 168) iX3 tyX3_ok nmX3 x_k168 rfl (j := 2) rfl (by decide) (by decide +kernel) rfl (ty := .int) (by decide +kernel) rfl rfl dX3_parse_2 ?_
  refine a_aload_n C dX3_parse_5 0 rfl ?_
  refine a_iconst C dX3_parse_6 (v := 0) (by decide) ?_
  refine a_putI C (k := 168) iX3 tyX3_ok nmX3 x_k168 rfl (j := 3) rfl (by decide) (by decide +kernel) rfl (ty := .int) (by decide +kernel) rfl rfl dX3_parse_7 ?_
  refine a_iconst C dX3_parse_10 (v := 0) (by decide) ?_
  refine a_istore_n C dX3_parse_11 (by decide) (lst2 := [(1, .int 0), (0, .ref (x_b G + 168))]) rfl ?_
  have L12 : ∀ (j i : Nat), i ≤ k9 → k9 < i + j → Ab G p l e (x_rm 8 0 0) s m args below meth c 2 0 0 (MQ below (x_Q G (some (.int 0)) (x_p (t_rc (t_pa d tx L k9) tx L (tp_P tx L k9) k9) 168 3 (nI (k9 + 1)))) args s 0 0 (x_A G)) 12 [(1, .int (nI i)), (0, .ref (x_b G + 168))] [] (t_pa d tx L i) := by
    intro j
    induction j with
    | zero => intro i h1 h2; exact absurd h2 (by omega)
    | succ j ih =>
      intro i hi hj 
      refine a_iload_n C dX3_parse_12 0 rfl ?_
      refine a_bipush C dX3_parse_13 (v := 15) (by decide) ?_
      refine a_icmp_ge C dX3_parse_15 (tgt := 65) (by decide) (fun h => absurd h (nI_ge (b := 15) (by omega) (by omega))) (fun h15 => ?_)
      refine a_aload_n C dX3_parse_18 1 rfl ?_
      refine a_iload_n C dX3_parse_19 0 rfl ?_
      have hpl := tp_P_le i (fun j hj => hgood j (by omega))
      rcases Nat.lt_or_ge i k9 with hik | hik
      · skip
        obtain ⟨hco, h59⟩ := hgood i hik
        have hce := tp_ce_le hpl hco
        refine a_callV C (k := 168) (As := [.int (nI i)]) (rest := []) (c_T_readCommand_t l G (t_pa d tx L i) tx L hL (t_pa_1 (by omega) (by omega) i |>.trans hln) (fun j hj => by rw [t_pa_out (by omega) (by omega)]; exact htx j hj) ht7 (tp_P tx L i) (t_pa_2 i) hpl i (by omega) (tp_vb tx L (tp_P tx L i)) hco.1 rfl hco.2) (cwV 1 C.1.2.2.2.2 gX3_parse_X3_readCommand rfl rfl rfl (by decide +kernel) ⟨Nat.le_of_ble_eq_true rfl, Nat.le_of_ble_eq_true rfl⟩) x_k168 (q := (RX3, TX3, 7)) rfl rfl rfl rfl (Nat.le_of_ble_eq_true rfl) dX3_parse_20 ⟨Nat.le_of_ble_eq_true rfl, Nat.le_of_ble_eq_true rfl⟩ ?_
        refine a_toD (d2 := t_rc (t_pa d tx L i) tx L (tp_P tx L i) i) rfl ?_
        have hlt := tp_c_lt h59
        refine a_if_ne C dX3_parse_23 (tgt := 28) (by decide) (fun _ => ?_) (fun h => absurd h (by decide))
        refine a_aload_n C dX3_parse_28 1 rfl ?_
        refine a_iload_n C dX3_parse_29 0 rfl ?_
        refine a_iconst C dX3_parse_30 (v := 1) (by decide) ?_
        refine a_iadd C dX3_parse_31 ?_
        refine a_top (y := (nI (i + 1))) (nI_1 i) ?_
        refine a_putI C (k := 168) iX3 tyX3_ok nmX3 x_k168 rfl (j := 3) rfl (by decide) (by decide +kernel) rfl (ty := .int) (by decide +kernel) rfl rfl dX3_parse_32 ?_
        refine a_aload_n C dX3_parse_35 1 rfl ?_
        refine a_getI C (k := 168) iX3 x_k168 rfl (j := 2) rfl (by decide) (by decide +kernel) dX3_parse_36 ?_
        refine a_top (y := ((t_rc (t_pa d tx L i) tx L (tp_P tx L i) i) 168 2)) (by first | rw [x_p_row (by omega)] | rfl) ?_
        refine a_top (y := (nI (tp_ce tx L (tp_P tx L i)))) (t_rc_2 hco) ?_
        refine a_aload_n C dX3_parse_39 1 rfl ?_
        refine a_getI C (k := 168) iX3 x_k168 rfl (j := 1) rfl (by decide) (by decide +kernel) dX3_parse_40 ?_
        refine a_top (y := ((t_rc (t_pa d tx L i) tx L (tp_P tx L i) i) 168 1)) (by first | rw [x_p_row (by omega)] | rfl) ?_
        refine a_top (y := (nI L)) ((t_rx_1 (by omega)).trans ((t_pa_1 (by omega) (by omega) i).trans hln)) ?_
        refine a_icmp_lt C dX3_parse_43 (tgt := 48) (by decide) (fun h43 => ?_) (fun h => False.elim (h (nI_lt hlt (by omega))))
        refine a_aload_n C dX3_parse_48 1 rfl ?_
        refine a_bipush C dX3_parse_49 (v := 59) (by decide) ?_
        refine a_callV C (k := 168) (As := [.int 59]) (rest := []) (c_T_readCharacter_t l G (x_p (t_rc (t_pa d tx L i) tx L (tp_P tx L i) i) 168 3 (nI (i + 1))) tx L hL (by rw [x_p_row (by omega)]; exact (t_rx_1 (by omega)).trans ((t_pa_1 (by omega) (by omega) i).trans hln)) (fun j hj => by rw [x_p_ne (by omega)]; exact (congrFun (t_rx_out (by omega) (by omega)) j).trans ((congrFun (t_pa_out (by omega) (by omega) i) j).trans (htx j hj))) ht7 (tp_ce tx L (tp_P tx L i)) (by rw [x_p_row (by omega)]; exact t_rc_2 hco) hce 59 (by omega) h59) (cwV 1 C.1.2.2.2.2 gX3_parse_X3_readCharacter rfl rfl rfl (by decide +kernel) ⟨Nat.le_of_ble_eq_true rfl, Nat.le_of_ble_eq_true rfl⟩) x_k168 (q := (RX3, TX3, 7)) rfl rfl rfl rfl (Nat.le_of_ble_eq_true rfl) dX3_parse_51 ⟨Nat.le_of_ble_eq_true rfl, Nat.le_of_ble_eq_true rfl⟩ ?_
        refine a_if_ne C dX3_parse_54 (tgt := 59) (by decide) (fun _ => ?_) (fun h => absurd h (by decide))
        refine a_iinc C dX3_parse_59 0 rfl (v := (nI (i + 1))) (x_inc i) (by decide) (lst2 := [(1, .int (nI (i + 1))), (0, .ref (x_b G + 168))]) rfl ?_
        refine a_goto C dX3_parse_62 (tgt := 12) (by decide) ?_
        refine a_sub (lst2 := [(1, .int (nI (i + 1))), (0, .ref (x_b G + 168))]) [0, 1] rfl ?_
        refine a_to (lst2 := [(1, .int (nI ((i + 1)))), (0, .ref (x_b G + 168))]) (st2 := []) (d2 := t_pa d tx L ((i + 1))) rfl rfl rfl ?_
        exact ih (i + 1) (by omega) (by omega) 
      · skip
        have e9 : k9 = i := by omega
        subst e9
        have hce := tp_ce_le hpl hco
        refine a_callV C (k := 168) (As := [.int (nI k9)]) (rest := []) (c_T_readCommand_t l G (t_pa d tx L k9) tx L hL (t_pa_1 (by omega) (by omega) k9 |>.trans hln) (fun j hj => by rw [t_pa_out (by omega) (by omega)]; exact htx j hj) ht7 (tp_P tx L k9) (t_pa_2 k9) hpl k9 (by omega) (tp_vb tx L (tp_P tx L k9)) hco.1 rfl hco.2) (cwV 1 C.1.2.2.2.2 gX3_parse_X3_readCommand rfl rfl rfl (by decide +kernel) ⟨Nat.le_of_ble_eq_true rfl, Nat.le_of_ble_eq_true rfl⟩) x_k168 (q := (RX3, TX3, 7)) rfl rfl rfl rfl (Nat.le_of_ble_eq_true rfl) dX3_parse_20 ⟨Nat.le_of_ble_eq_true rfl, Nat.le_of_ble_eq_true rfl⟩ ?_
        refine a_toD (d2 := t_rc (t_pa d tx L k9) tx L (tp_P tx L k9) k9) rfl ?_
        refine a_if_ne C dX3_parse_23 (tgt := 28) (by decide) (fun _ => ?_) (fun h => absurd h (by decide))
        refine a_aload_n C dX3_parse_28 1 rfl ?_
        refine a_iload_n C dX3_parse_29 0 rfl ?_
        refine a_iconst C dX3_parse_30 (v := 1) (by decide) ?_
        refine a_iadd C dX3_parse_31 ?_
        refine a_top (y := (nI (k9 + 1))) (nI_1 k9) ?_
        refine a_putI C (k := 168) iX3 tyX3_ok nmX3 x_k168 rfl (j := 3) rfl (by decide) (by decide +kernel) rfl (ty := .int) (by decide +kernel) rfl rfl dX3_parse_32 ?_
        refine a_aload_n C dX3_parse_35 1 rfl ?_
        refine a_getI C (k := 168) iX3 x_k168 rfl (j := 2) rfl (by decide) (by decide +kernel) dX3_parse_36 ?_
        refine a_top (y := ((t_rc (t_pa d tx L k9) tx L (tp_P tx L k9) k9) 168 2)) (by first | rw [x_p_row (by omega)] | rfl) ?_
        refine a_top (y := (nI (tp_ce tx L (tp_P tx L k9)))) (t_rc_2 hco) ?_
        refine a_aload_n C dX3_parse_39 1 rfl ?_
        refine a_getI C (k := 168) iX3 x_k168 rfl (j := 1) rfl (by decide) (by decide +kernel) dX3_parse_40 ?_
        refine a_top (y := ((t_rc (t_pa d tx L k9) tx L (tp_P tx L k9) k9) 168 1)) (by first | rw [x_p_row (by omega)] | rfl) ?_
        refine a_top (y := (nI L)) ((t_rx_1 (by omega)).trans ((t_pa_1 (by omega) (by omega) k9).trans hln)) ?_
        refine a_icmp_lt C dX3_parse_43 (tgt := 48) (by decide) (fun h43 => ?_) (fun h => False.elim (h (nI_lt hlt (by omega))))
        refine a_aload_n C dX3_parse_48 1 rfl ?_
        refine a_bipush C dX3_parse_49 (v := 59) (by decide) ?_
        refine a_callV C (k := 168) (As := [.int 59]) (rest := []) (c_T_readCharacter_f l G (x_p (t_rc (t_pa d tx L k9) tx L (tp_P tx L k9) k9) 168 3 (nI (k9 + 1))) tx L hL (by rw [x_p_row (by omega)]; exact (t_rx_1 (by omega)).trans ((t_pa_1 (by omega) (by omega) k9).trans hln)) (fun j hj => by rw [x_p_ne (by omega)]; exact (congrFun (t_rx_out (by omega) (by omega)) j).trans ((congrFun (t_pa_out (by omega) (by omega) k9) j).trans (htx j hj))) ht7 (tp_ce tx L (tp_P tx L k9)) (by rw [x_p_row (by omega)]; exact t_rc_2 hco) hce 59 (by omega) hno) (cwV 1 C.1.2.2.2.2 gX3_parse_X3_readCharacter rfl rfl rfl (by decide +kernel) ⟨Nat.le_of_ble_eq_true rfl, Nat.le_of_ble_eq_true rfl⟩) x_k168 (q := (RX3, TX3, 7)) rfl rfl rfl rfl (Nat.le_of_ble_eq_true rfl) dX3_parse_51 ⟨Nat.le_of_ble_eq_true rfl, Nat.le_of_ble_eq_true rfl⟩ ?_
        refine a_if_ne C dX3_parse_54 (tgt := 59) (by decide) (fun h => absurd h (by decide)) (fun _ => ?_)
        refine a_iconst C dX3_parse_57 (v := 0) (by decide) ?_
        exact a_zret C hlocks hr rfl dX3_parse_58 rfl rfl
  refine a_sub (lst2 := [(1, .int 0), (0, .ref (x_b G + 168))]) [0, 1] rfl ?_
  exact L12 (k9 + 1) 0 (by omega) (by omega) 

set_option maxHeartbeats 1000000 in
set_option maxRecDepth 100000 in
theorem c_T_parse_full (l : Launch) (G : xG) (d : xd) (tx : Nat → Nat) (L : Nat) (hL : L ≤ 60) (hln : d 168 1 = nI L) (htx : ∀ j, j < L → d 169 j = nI (tx j)) (ht7 : ∀ j, j < L → tx j < 128) (hgood : ∀ j, j < 15 → tp_co tx L (tp_P tx L j) ∧ tp_c tx L (tp_ce tx L (tp_P tx L j)) 59 = true)  : x_M G l yX3_parse wsX3_parse 8 0 0 [.ref (x_b G + 168)] d (some (.int 0)) (t_pa d tx L 15) := by
  have iX3 : ∀ w ∈ u_ws RX3 TX3 7, w ∈ wsX3_parse := by decide +kernel
  refine x_start (cc := cX3_parse) (maxL := 2) (ret := (some .boolean)) (own := RX3) (by decide) rfl rfl (Nat.le_of_ble_eq_true rfl) (lst := [(0, .ref (x_b G + 168))]) rfl ?_
  intro p e s m args below meth c C hr hlocks
  refine a_aload_n C dX3_parse_0 0 rfl ?_
  refine a_iconst C dX3_parse_1 (v := 0) (by decide) ?_
  refine a_putI C (k := 168) iX3 tyX3_ok nmX3 x_k168 rfl (j := 2) rfl (by decide) (by decide +kernel) rfl (ty := .int) (by decide +kernel) rfl rfl dX3_parse_2 ?_
  refine a_aload_n C dX3_parse_5 0 rfl ?_
  refine a_iconst C dX3_parse_6 (v := 0) (by decide) ?_
  refine a_putI C (k := 168) iX3 tyX3_ok nmX3 x_k168 rfl (j := 3) rfl (by decide) (by decide +kernel) rfl (ty := .int) (by decide +kernel) rfl rfl dX3_parse_7 ?_
  refine a_iconst C dX3_parse_10 (v := 0) (by decide) ?_
  refine a_istore_n C dX3_parse_11 (by decide) (lst2 := [(1, .int 0), (0, .ref (x_b G + 168))]) rfl ?_
  have L12 : ∀ (j i : Nat), i ≤ 15 → 15 < i + j → Ab G p l e (x_rm 8 0 0) s m args below meth c 2 0 0 (MQ below (x_Q G (some (.int 0)) (t_pa d tx L 15)) args s 0 0 (x_A G)) 12 [(1, .int (nI i)), (0, .ref (x_b G + 168))] [] (t_pa d tx L i) := by
    intro j
    induction j with
    | zero => intro i h1 h2; exact absurd h2 (by omega)
    | succ j ih =>
      intro i hi hj 
      refine a_iload_n C dX3_parse_12 0 rfl ?_
      refine a_bipush C dX3_parse_13 (v := 15) (by decide) ?_
      refine a_icmp_ge C dX3_parse_15 (tgt := 65) (by decide) (fun h15 => ?_) (fun h15 => ?_)
      · skip
        have e := x_ge (n := 15) h15 hi (by omega)
        have e9 := e.symm
        subst e9
        clear e
        refine a_iconst C dX3_parse_65 (v := 0) (by decide) ?_
        exact a_zret C hlocks hr rfl dX3_parse_66 rfl rfl
      · skip
        have hlt9 := x_nge (n := 15) h15 hi
        refine a_aload_n C dX3_parse_18 1 rfl ?_
        refine a_iload_n C dX3_parse_19 0 rfl ?_
        have hpl := tp_P_le i (fun j hj => hgood j (by omega))
        obtain ⟨hco, h59⟩ := hgood i hlt9
        have hce := tp_ce_le hpl hco
        refine a_callV C (k := 168) (As := [.int (nI i)]) (rest := []) (c_T_readCommand_t l G (t_pa d tx L i) tx L hL (t_pa_1 (by omega) (by omega) i |>.trans hln) (fun j hj => by rw [t_pa_out (by omega) (by omega)]; exact htx j hj) ht7 (tp_P tx L i) (t_pa_2 i) hpl i (by omega) (tp_vb tx L (tp_P tx L i)) hco.1 rfl hco.2) (cwV 1 C.1.2.2.2.2 gX3_parse_X3_readCommand rfl rfl rfl (by decide +kernel) ⟨Nat.le_of_ble_eq_true rfl, Nat.le_of_ble_eq_true rfl⟩) x_k168 (q := (RX3, TX3, 7)) rfl rfl rfl rfl (Nat.le_of_ble_eq_true rfl) dX3_parse_20 ⟨Nat.le_of_ble_eq_true rfl, Nat.le_of_ble_eq_true rfl⟩ ?_
        refine a_toD (d2 := t_rc (t_pa d tx L i) tx L (tp_P tx L i) i) rfl ?_
        have hlt := tp_c_lt h59
        refine a_if_ne C dX3_parse_23 (tgt := 28) (by decide) (fun _ => ?_) (fun h => absurd h (by decide))
        refine a_aload_n C dX3_parse_28 1 rfl ?_
        refine a_iload_n C dX3_parse_29 0 rfl ?_
        refine a_iconst C dX3_parse_30 (v := 1) (by decide) ?_
        refine a_iadd C dX3_parse_31 ?_
        refine a_top (y := (nI (i + 1))) (nI_1 i) ?_
        refine a_putI C (k := 168) iX3 tyX3_ok nmX3 x_k168 rfl (j := 3) rfl (by decide) (by decide +kernel) rfl (ty := .int) (by decide +kernel) rfl rfl dX3_parse_32 ?_
        refine a_aload_n C dX3_parse_35 1 rfl ?_
        refine a_getI C (k := 168) iX3 x_k168 rfl (j := 2) rfl (by decide) (by decide +kernel) dX3_parse_36 ?_
        refine a_top (y := ((t_rc (t_pa d tx L i) tx L (tp_P tx L i) i) 168 2)) (by first | rw [x_p_row (by omega)] | rfl) ?_
        refine a_top (y := (nI (tp_ce tx L (tp_P tx L i)))) (t_rc_2 hco) ?_
        refine a_aload_n C dX3_parse_39 1 rfl ?_
        refine a_getI C (k := 168) iX3 x_k168 rfl (j := 1) rfl (by decide) (by decide +kernel) dX3_parse_40 ?_
        refine a_top (y := ((t_rc (t_pa d tx L i) tx L (tp_P tx L i) i) 168 1)) (by first | rw [x_p_row (by omega)] | rfl) ?_
        refine a_top (y := (nI L)) ((t_rx_1 (by omega)).trans ((t_pa_1 (by omega) (by omega) i).trans hln)) ?_
        refine a_icmp_lt C dX3_parse_43 (tgt := 48) (by decide) (fun h43 => ?_) (fun h => False.elim (h (nI_lt hlt (by omega))))
        refine a_aload_n C dX3_parse_48 1 rfl ?_
        refine a_bipush C dX3_parse_49 (v := 59) (by decide) ?_
        refine a_callV C (k := 168) (As := [.int 59]) (rest := []) (c_T_readCharacter_t l G (x_p (t_rc (t_pa d tx L i) tx L (tp_P tx L i) i) 168 3 (nI (i + 1))) tx L hL (by rw [x_p_row (by omega)]; exact (t_rx_1 (by omega)).trans ((t_pa_1 (by omega) (by omega) i).trans hln)) (fun j hj => by rw [x_p_ne (by omega)]; exact (congrFun (t_rx_out (by omega) (by omega)) j).trans ((congrFun (t_pa_out (by omega) (by omega) i) j).trans (htx j hj))) ht7 (tp_ce tx L (tp_P tx L i)) (by rw [x_p_row (by omega)]; exact t_rc_2 hco) hce 59 (by omega) h59) (cwV 1 C.1.2.2.2.2 gX3_parse_X3_readCharacter rfl rfl rfl (by decide +kernel) ⟨Nat.le_of_ble_eq_true rfl, Nat.le_of_ble_eq_true rfl⟩) x_k168 (q := (RX3, TX3, 7)) rfl rfl rfl rfl (Nat.le_of_ble_eq_true rfl) dX3_parse_51 ⟨Nat.le_of_ble_eq_true rfl, Nat.le_of_ble_eq_true rfl⟩ ?_
        refine a_if_ne C dX3_parse_54 (tgt := 59) (by decide) (fun _ => ?_) (fun h => absurd h (by decide))
        refine a_iinc C dX3_parse_59 0 rfl (v := (nI (i + 1))) (x_inc i) (by decide) (lst2 := [(1, .int (nI (i + 1))), (0, .ref (x_b G + 168))]) rfl ?_
        refine a_goto C dX3_parse_62 (tgt := 12) (by decide) ?_
        refine a_sub (lst2 := [(1, .int (nI (i + 1))), (0, .ref (x_b G + 168))]) [0, 1] rfl ?_
        refine a_to (lst2 := [(1, .int (nI ((i + 1)))), (0, .ref (x_b G + 168))]) (st2 := []) (d2 := t_pa d tx L ((i + 1))) rfl rfl rfl ?_
        exact ih (i + 1) (by omega) (by omega) 
  refine a_sub (lst2 := [(1, .int 0), (0, .ref (x_b G + 168))]) [0, 1] rfl ?_
  exact L12 (15 + 1) 0 (by omega) (by omega) 

set_option maxHeartbeats 1000000 in
set_option maxRecDepth 100000 in
theorem c_T_isFull_t (l : Launch) (G : xG) (d : xd) (hk : d 168 1 = 60) : x_M G l yX3_isFull wsX3_isFull 1 0 0 [.ref (x_b G + 168)] d (some (.int 1)) d := by
  have iX3 : ∀ w ∈ u_ws RX3 TX3 7, w ∈ wsX3_isFull := by decide +kernel
  refine x_start (cc := cX3_isFull) (maxL := 1) (ret := (some .boolean)) (own := RX3) (by decide) rfl rfl (Nat.le_of_ble_eq_true rfl) (lst := [(0, .ref (x_b G + 168))]) rfl ?_
  intro p e s m args below meth c C hr hlocks
  refine a_aload_n C dX3_isFull_0 0 rfl ?_
  refine a_getI C (k := 168) iX3 x_k168 rfl (j := 1) rfl (by decide) (by decide +kernel) dX3_isFull_1 ?_
  refine a_top (y := 60) hk ?_
  refine a_bipush C dX3_isFull_4 (v := 60) (by decide) ?_
  refine a_icmp_lt C dX3_isFull_6 (tgt := 13) (by decide) (fun h => absurd h (by decide)) (fun _ => ?_)
  refine a_iconst C dX3_isFull_9 (v := 1) (by decide) ?_
  refine a_goto C dX3_isFull_10 (tgt := 14) (by decide) ?_
  exact a_zret C hlocks hr rfl dX3_isFull_14 rfl rfl

set_option maxHeartbeats 1000000 in
set_option maxRecDepth 100000 in
theorem c_T_isFull_f (l : Launch) (G : xG) (d : xd) (k : Nat) (hk : d 168 1 = nI k) (hk6 : k < 60) : x_M G l yX3_isFull wsX3_isFull 1 0 0 [.ref (x_b G + 168)] d (some (.int 0)) d := by
  have iX3 : ∀ w ∈ u_ws RX3 TX3 7, w ∈ wsX3_isFull := by decide +kernel
  refine x_start (cc := cX3_isFull) (maxL := 1) (ret := (some .boolean)) (own := RX3) (by decide) rfl rfl (Nat.le_of_ble_eq_true rfl) (lst := [(0, .ref (x_b G + 168))]) rfl ?_
  intro p e s m args below meth c C hr hlocks
  refine a_aload_n C dX3_isFull_0 0 rfl ?_
  refine a_getI C (k := 168) iX3 x_k168 rfl (j := 1) rfl (by decide) (by decide +kernel) dX3_isFull_1 ?_
  refine a_top (y := (nI k)) hk ?_
  refine a_bipush C dX3_isFull_4 (v := 60) (by decide) ?_
  refine a_icmp_lt C dX3_isFull_6 (tgt := 13) (by decide) (fun h6 => ?_) (fun h => False.elim (h (nI_lt (b := 60) hk6 (by omega))))
  refine a_iconst C dX3_isFull_13 (v := 0) (by decide) ?_
  exact a_zret C hlocks hr rfl dX3_isFull_14 rfl rfl

set_option maxHeartbeats 1000000 in
set_option maxRecDepth 100000 in
theorem c_T_append (l : Launch) (G : xG) (d : xd) (k : Nat) (hk : d 168 1 = nI k) (hk6 : k < 60) (a : Nat) (ha : a < 65536) : x_M G l yX3_append wsX3_append 1 0 0 [.ref (x_b G + 168), .int (nI a)] d (some (.int (nI (k + 1)))) (x_p (x_p d 169 k (nI a)) 168 1 (nI (k + 1))) := by
  have iX3 : ∀ w ∈ u_ws RX3 TX3 7, w ∈ wsX3_append := by decide +kernel
  refine x_start (cc := cX3_append) (maxL := 2) (ret := (some .int)) (own := RX3) (by decide) rfl rfl (Nat.le_of_ble_eq_true rfl) (lst := [(0, .ref (x_b G + 168)), (1, .int (nI a))]) rfl ?_
  intro p e s m args below meth c C hr hlocks
  refine a_aload_n C dX3_append_0 0 rfl ?_
  refine a_getR C (k := 168) iX3 x_k168 rfl (j := 0) rfl (by decide) (by decide +kernel) dX3_append_1 ?_
  refine a_aload_n C dX3_append_4 0 rfl ?_
  refine a_getI C (k := 168) iX3 x_k168 rfl (j := 1) rfl (by decide) (by decide +kernel) dX3_append_5 ?_
  refine a_top (y := (nI k)) hk ?_
  refine a_iload_n C dX3_append_8 1 rfl ?_
  refine a_castN C (k := 169) x_k169 (i := k) rfl (by omega) (by first | decide | omega) (v := (nI a)) (x_chn ha) dX3_append_9 ?_
  refine a_aload_n C dX3_append_10 0 rfl ?_
  refine a_dup C dX3_append_11 rfl ?_
  refine a_getI C (k := 168) iX3 x_k168 rfl (j := 1) rfl (by decide) (by decide +kernel) dX3_append_12 ?_
  refine a_top (y := (d 168 1)) (by first | rw [x_p_ne (by omega)] | rfl) ?_
  refine a_top (y := (nI k)) hk ?_
  refine a_iconst C dX3_append_15 (v := 1) (by decide) ?_
  refine a_iadd C dX3_append_16 ?_
  refine a_top (y := (nI (k + 1))) (nI_1 k) ?_
  refine a_putI C (k := 168) iX3 tyX3_ok nmX3 x_k168 rfl (j := 1) rfl (by decide) (by decide +kernel) rfl (ty := .int) (by decide +kernel) rfl rfl dX3_append_17 ?_
  refine a_aload_n C dX3_append_20 0 rfl ?_
  refine a_getI C (k := 168) iX3 x_k168 rfl (j := 1) rfl (by decide) (by decide +kernel) dX3_append_21 ?_
  refine a_top (y := ((nI (k + 1)))) (by first | rw [x_p_at] | rfl) ?_
  exact a_iret C hlocks hr dX3_append_24 rfl rfl

