-- STAND-INS
theorem n : True := trivial
theorem i : True := trivial
theorem k : True := trivial
theorem q : True := trivial
theorem u : True := trivial
theorem v : True := trivial
theorem w : True := trivial
theorem j : True := trivial
theorem o : True := trivial
theorem a : True := trivial
theorem b : True := trivial
theorem y : True := trivial
theorem z : True := trivial
theorem r : True := trivial
theorem t : True := trivial
theorem f : True := trivial
theorem g : True := trivial
theorem o2 : True := trivial
theorem a2 : True := trivial
theorem hlt : True := trivial
theorem hltk : True := trivial
theorem hlt3 : True := trivial
theorem hlt4 : True := trivial
theorem hn : True := trivial
theorem hq : True := trivial
theorem hm : True := trivial
theorem hi : True := trivial
theorem hi2 : True := trivial
theorem hi3 : True := trivial
theorem hk : True := trivial
theorem hj : True := trivial
theorem hb : True := trivial
theorem hs : True := trivial
theorem hw : True := trivial
theorem hx : True := trivial
theorem hz : True := trivial
theorem hv : True := trivial
theorem hr : True := trivial
theorem hc : True := trivial
theorem hu : True := trivial
theorem hp : True := trivial
theorem hl : True := trivial
theorem hh : True := trivial
theorem e : True := trivial
theorem e9 : True := trivial
theorem sh : True := trivial
theorem a0 : True := trivial
theorem c9 : True := trivial
theorem k9 : True := trivial
theorem m9 : True := trivial
theorem mm : True := trivial
theorem ha : True := trivial
theorem ho : True := trivial
theorem hS : True := trivial
theorem ha0 : True := trivial
theorem hs9 : True := trivial
theorem hk0 : True := trivial
theorem hk1 : True := trivial
theorem hk9 : True := trivial
theorem hap : True := trivial
theorem hoo : True := trivial
theorem qh : True := trivial
theorem ex : True := trivial
theorem ih : True := trivial
theorem ihk : True := trivial
theorem ih1 : True := trivial
theorem ih2 : True := trivial
theorem ih3 : True := trivial
theorem ih4 : True := trivial
theorem ihj : True := trivial
theorem st : True := trivial
theorem lst : True := trivial
theorem args0 : True := trivial
theorem hcn : True := trivial
theorem hcir : True := trivial
theorem q8 : True := trivial
theorem z8 : True := trivial
theorem h0 : True := trivial
theorem h1 : True := trivial
theorem h2 : True := trivial
theorem h3 : True := trivial
theorem h4 : True := trivial
theorem h5 : True := trivial
theorem h7 : True := trivial
theorem h10 : True := trivial
theorem h11 : True := trivial
theorem h12 : True := trivial
theorem h13 : True := trivial
theorem h14 : True := trivial
theorem h15 : True := trivial
theorem h16 : True := trivial
theorem h17 : True := trivial
theorem h18 : True := trivial
theorem h19 : True := trivial
theorem h20 : True := trivial
theorem h21 : True := trivial
theorem h22 : True := trivial
theorem h23 : True := trivial
theorem h24 : True := trivial
theorem h25 : True := trivial
theorem h26 : True := trivial
theorem h27 : True := trivial
theorem h28 : True := trivial
theorem h29 : True := trivial
theorem h30 : True := trivial
theorem h31 : True := trivial
theorem h32 : True := trivial
theorem h33 : True := trivial
theorem h34 : True := trivial
theorem h35 : True := trivial
theorem h36 : True := trivial
theorem h37 : True := trivial
theorem h38 : True := trivial
theorem h39 : True := trivial
theorem h40 : True := trivial
theorem h41 : True := trivial
theorem h42 : True := trivial
theorem h43 : True := trivial
theorem h44 : True := trivial
theorem h45 : True := trivial
theorem h46 : True := trivial
theorem h47 : True := trivial
theorem h48 : True := trivial
theorem h49 : True := trivial
theorem h50 : True := trivial
theorem h51 : True := trivial
theorem h52 : True := trivial
theorem h53 : True := trivial
theorem h54 : True := trivial
theorem h55 : True := trivial
theorem h56 : True := trivial
theorem h57 : True := trivial
theorem h58 : True := trivial
theorem h59 : True := trivial
theorem h60 : True := trivial
theorem h61 : True := trivial
theorem h62 : True := trivial
theorem h63 : True := trivial
theorem h64 : True := trivial
theorem h65 : True := trivial
theorem h66 : True := trivial
theorem h67 : True := trivial
theorem h68 : True := trivial
theorem h69 : True := trivial
theorem h70 : True := trivial
theorem h71 : True := trivial
theorem h72 : True := trivial
theorem h73 : True := trivial
theorem h74 : True := trivial
theorem h75 : True := trivial
theorem h76 : True := trivial
theorem h77 : True := trivial
theorem h78 : True := trivial
theorem h79 : True := trivial
theorem h80 : True := trivial
theorem h81 : True := trivial
theorem h82 : True := trivial
theorem h83 : True := trivial
theorem h84 : True := trivial
theorem h85 : True := trivial
theorem h86 : True := trivial
theorem h87 : True := trivial
theorem h88 : True := trivial
theorem h89 : True := trivial
theorem h90 : True := trivial
theorem h91 : True := trivial
theorem h92 : True := trivial
theorem h93 : True := trivial
theorem h94 : True := trivial
theorem h95 : True := trivial
theorem h96 : True := trivial
theorem h97 : True := trivial
theorem h98 : True := trivial
theorem h99 : True := trivial
theorem h100 : True := trivial
theorem h101 : True := trivial
theorem h102 : True := trivial
theorem h103 : True := trivial
theorem h104 : True := trivial
theorem h105 : True := trivial
theorem h106 : True := trivial
theorem h107 : True := trivial
theorem h108 : True := trivial
theorem h109 : True := trivial
theorem h110 : True := trivial
theorem h111 : True := trivial
theorem h112 : True := trivial
theorem h113 : True := trivial
theorem h114 : True := trivial
theorem h115 : True := trivial
theorem h116 : True := trivial
theorem h117 : True := trivial
theorem h118 : True := trivial
theorem h119 : True := trivial
theorem h120 : True := trivial
theorem h121 : True := trivial
theorem h122 : True := trivial
theorem h123 : True := trivial
theorem h124 : True := trivial
theorem h125 : True := trivial
theorem h126 : True := trivial
theorem h127 : True := trivial
theorem h128 : True := trivial
theorem h129 : True := trivial
theorem h130 : True := trivial
theorem h131 : True := trivial
theorem h132 : True := trivial
theorem h133 : True := trivial
theorem h134 : True := trivial
theorem h135 : True := trivial
theorem h136 : True := trivial
theorem h137 : True := trivial
theorem h138 : True := trivial
theorem h139 : True := trivial
theorem h140 : True := trivial
theorem h141 : True := trivial
theorem h142 : True := trivial
theorem h143 : True := trivial
theorem h144 : True := trivial
theorem h145 : True := trivial
theorem h146 : True := trivial
theorem h147 : True := trivial
theorem h148 : True := trivial
theorem h149 : True := trivial
theorem h150 : True := trivial
theorem h151 : True := trivial
theorem h152 : True := trivial
theorem h153 : True := trivial
theorem h154 : True := trivial
theorem h155 : True := trivial
theorem h156 : True := trivial
theorem h157 : True := trivial
theorem h158 : True := trivial
theorem h159 : True := trivial
theorem h160 : True := trivial
theorem h161 : True := trivial
theorem h162 : True := trivial
theorem h163 : True := trivial
theorem h164 : True := trivial
theorem h165 : True := trivial
theorem h166 : True := trivial
theorem h167 : True := trivial
theorem h168 : True := trivial
theorem h169 : True := trivial
theorem h170 : True := trivial
theorem h171 : True := trivial
theorem h172 : True := trivial
theorem h173 : True := trivial
theorem h174 : True := trivial
theorem h175 : True := trivial
theorem h176 : True := trivial
theorem h177 : True := trivial
theorem h178 : True := trivial
theorem h179 : True := trivial
theorem h180 : True := trivial
theorem h181 : True := trivial
theorem h182 : True := trivial
theorem h183 : True := trivial
theorem h184 : True := trivial
theorem h185 : True := trivial
theorem h186 : True := trivial
theorem h187 : True := trivial
theorem h188 : True := trivial
theorem h189 : True := trivial
theorem h190 : True := trivial
theorem h191 : True := trivial
theorem h192 : True := trivial
theorem h193 : True := trivial
theorem h194 : True := trivial
theorem h195 : True := trivial
theorem h196 : True := trivial
theorem h197 : True := trivial
theorem h198 : True := trivial
theorem h199 : True := trivial
theorem L0 : True := trivial
theorem L1 : True := trivial
theorem L2 : True := trivial
theorem L3 : True := trivial
theorem L4 : True := trivial
theorem L5 : True := trivial
theorem L6 : True := trivial
theorem L7 : True := trivial
theorem L8 : True := trivial
theorem L9 : True := trivial
theorem L10 : True := trivial
theorem L11 : True := trivial
theorem L12 : True := trivial
theorem L13 : True := trivial
theorem L14 : True := trivial
theorem L15 : True := trivial
theorem L16 : True := trivial
theorem L17 : True := trivial
theorem L18 : True := trivial
theorem L19 : True := trivial
theorem L20 : True := trivial
theorem L21 : True := trivial
theorem L22 : True := trivial
theorem L23 : True := trivial
theorem L24 : True := trivial
theorem L25 : True := trivial
theorem L26 : True := trivial
theorem L27 : True := trivial
theorem L28 : True := trivial
theorem L29 : True := trivial
theorem L30 : True := trivial
theorem L31 : True := trivial
theorem L32 : True := trivial
theorem L33 : True := trivial
theorem L34 : True := trivial
theorem L35 : True := trivial
theorem L36 : True := trivial
theorem L37 : True := trivial
theorem L38 : True := trivial
theorem L39 : True := trivial
theorem L40 : True := trivial
theorem L41 : True := trivial
theorem L42 : True := trivial
theorem L43 : True := trivial
theorem L44 : True := trivial
theorem L45 : True := trivial
theorem L46 : True := trivial
theorem L47 : True := trivial
theorem L48 : True := trivial
theorem L49 : True := trivial
theorem L50 : True := trivial
theorem L51 : True := trivial
theorem L52 : True := trivial
theorem L53 : True := trivial
theorem L54 : True := trivial
theorem L55 : True := trivial
theorem L56 : True := trivial
theorem L57 : True := trivial
theorem L58 : True := trivial
theorem L59 : True := trivial
theorem L60 : True := trivial
theorem L61 : True := trivial
theorem L62 : True := trivial
theorem L63 : True := trivial
theorem L64 : True := trivial
theorem L65 : True := trivial
theorem L66 : True := trivial
theorem L67 : True := trivial
theorem L68 : True := trivial
theorem L69 : True := trivial
theorem L70 : True := trivial
theorem L71 : True := trivial
theorem L72 : True := trivial
theorem L73 : True := trivial
theorem L74 : True := trivial
theorem L75 : True := trivial
theorem L76 : True := trivial
theorem L77 : True := trivial
theorem L78 : True := trivial
theorem L79 : True := trivial
theorem L80 : True := trivial
theorem L81 : True := trivial
theorem L82 : True := trivial
theorem L83 : True := trivial
theorem L84 : True := trivial
theorem L85 : True := trivial
theorem L86 : True := trivial
theorem L87 : True := trivial
theorem L88 : True := trivial
theorem L89 : True := trivial
theorem L90 : True := trivial
theorem L91 : True := trivial
theorem L92 : True := trivial
theorem L93 : True := trivial
theorem L94 : True := trivial
theorem L95 : True := trivial
theorem L96 : True := trivial
theorem L97 : True := trivial
theorem L98 : True := trivial
theorem L99 : True := trivial
theorem L100 : True := trivial
theorem L101 : True := trivial
theorem L102 : True := trivial
theorem L103 : True := trivial
theorem L104 : True := trivial
theorem L105 : True := trivial
theorem L106 : True := trivial
theorem L107 : True := trivial
theorem L108 : True := trivial
theorem L109 : True := trivial
theorem L110 : True := trivial
theorem L111 : True := trivial
theorem L112 : True := trivial
theorem L113 : True := trivial
theorem L114 : True := trivial
theorem L115 : True := trivial
theorem L116 : True := trivial
theorem L117 : True := trivial
theorem L118 : True := trivial
theorem L119 : True := trivial
theorem L120 : True := trivial
theorem L121 : True := trivial
theorem L122 : True := trivial
theorem L123 : True := trivial
theorem L124 : True := trivial
theorem L125 : True := trivial
theorem L126 : True := trivial
theorem L127 : True := trivial
theorem L128 : True := trivial
theorem L129 : True := trivial
theorem L130 : True := trivial
theorem L131 : True := trivial
theorem L132 : True := trivial
theorem L133 : True := trivial
theorem L134 : True := trivial
theorem L135 : True := trivial
theorem L136 : True := trivial
theorem L137 : True := trivial
theorem L138 : True := trivial
theorem L139 : True := trivial
theorem L140 : True := trivial
theorem L141 : True := trivial
theorem L142 : True := trivial
theorem L143 : True := trivial
theorem L144 : True := trivial
theorem L145 : True := trivial
theorem L146 : True := trivial
theorem L147 : True := trivial
theorem L148 : True := trivial
theorem L149 : True := trivial
theorem L150 : True := trivial
theorem L151 : True := trivial
theorem L152 : True := trivial
theorem L153 : True := trivial
theorem L154 : True := trivial
theorem L155 : True := trivial
theorem L156 : True := trivial
theorem L157 : True := trivial
theorem L158 : True := trivial
theorem L159 : True := trivial
theorem L160 : True := trivial
theorem L161 : True := trivial
theorem L162 : True := trivial
theorem L163 : True := trivial
theorem L164 : True := trivial
theorem L165 : True := trivial
theorem L166 : True := trivial
theorem L167 : True := trivial
theorem L168 : True := trivial
theorem L169 : True := trivial
theorem L170 : True := trivial
theorem L171 : True := trivial
theorem L172 : True := trivial
theorem L173 : True := trivial
theorem L174 : True := trivial
theorem L175 : True := trivial
theorem L176 : True := trivial
theorem L177 : True := trivial
theorem L178 : True := trivial
theorem L179 : True := trivial
theorem L180 : True := trivial
theorem L181 : True := trivial
theorem L182 : True := trivial
theorem L183 : True := trivial
theorem L184 : True := trivial
theorem L185 : True := trivial
theorem L186 : True := trivial
theorem L187 : True := trivial
theorem L188 : True := trivial
theorem L189 : True := trivial
theorem L190 : True := trivial
theorem L191 : True := trivial
theorem L192 : True := trivial
theorem L193 : True := trivial
theorem L194 : True := trivial
theorem L195 : True := trivial
theorem L196 : True := trivial
theorem L197 : True := trivial
theorem L198 : True := trivial
theorem L199 : True := trivial
-- STAND-INS
/-! a lamp gone -/
theorem va_gapc {f : Nat → Int32} {i m j : Nat} (hj : j < m) (hi : i ≤ m) : va_cpy f f (i + 1) i (m + 1 - i - 1) j = if j < i then f j else f (j + 1) := by
  by_cases h : j < i
  · rw [if_pos h, pk_cpy_out (Or.inl h)]
  · rw [if_neg h, pk_cpy_in (by omega) (by omega)]
    congr 1
    omega
def f_dw (d : xd) (o i : Nat) : xd := x_p (x_p (x_p d (o + 13) 0 ((d (o + 13) 0) + (d (o + 6) i))) (o + 13) 1 ((d (o + 13) 1) + (d (o + 7) i))) (o + 13) 2 ((d (o + 13) 2) + (d (o + 8) i))
theorem f_drop_is {d : xd} {o n i q : Nat} : f_drop d o n i q = x_r (f_gap (f_dw d o i) o n i) (o + 10) (f_fill (f_fg (f_gap (f_dw d o i) o n i (o + 10)) (nI i)) (f_gap (f_dw d o i) o n i (o + 10)) q) := rfl
theorem f_dw_out {d : xd} {o i k : Nat} (h : k ≠ o + 13) : f_dw d o i k = d k := by
  unfold f_dw
  rw [x_p_ne h, x_p_ne h, x_p_ne h]
theorem f_gap_row {W : xd} {o n i w : Nat} (h2 : 2 ≤ w) (h8 : w ≤ 8) : f_gap W o n i (o + w) = va_cpy (W (o + w)) (W (o + w)) (i + 1) i (n - i - 1) := by
  have hw : w = 2 ∨ w = 3 ∨ w = 4 ∨ w = 5 ∨ w = 6 ∨ w = 7 ∨ w = 8 := by omega
  unfold f_gap
  rw [x_p_ne (by omega)]
  rcases hw with rfl | rfl | rfl | rfl | rfl | rfl | rfl
  · rw [x_r_ne2 (by omega), x_r_ne2 (by omega), x_r_ne2 (by omega), x_r_ne2 (by omega), x_r_ne2 (by omega), x_r_ne2 (by omega), x_r_same]
  · rw [x_r_ne2 (by omega), x_r_ne2 (by omega), x_r_ne2 (by omega), x_r_ne2 (by omega), x_r_ne2 (by omega), x_r_same]
  · rw [x_r_ne2 (by omega), x_r_ne2 (by omega), x_r_ne2 (by omega), x_r_ne2 (by omega), x_r_same]
  · rw [x_r_ne2 (by omega), x_r_ne2 (by omega), x_r_ne2 (by omega), x_r_same]
  · rw [x_r_ne2 (by omega), x_r_ne2 (by omega), x_r_same]
  · rw [x_r_ne2 (by omega), x_r_same]
  · rw [x_r_same]
theorem f_drop_row {d : xd} {o m i q w j : Nat} (h2 : 2 ≤ w) (h8 : w ≤ 8) (hj : j < m) (hi : i ≤ m) : f_drop d o (m + 1) i q (o + w) j = if j < i then d (o + w) j else d (o + w) (j + 1) := by
  rw [f_drop_is, x_r_ne2 (by omega), f_gap_row h2 h8, f_dw_out (by omega), va_gapc hj hi]
theorem f_drop_10 {d : xd} {o n i q k : Nat} (hk : k < q) : f_drop d o n i q (o + 10) k = f_fg (d (o + 10)) (nI i) k := by
  rw [f_drop_is, x_r_same, f_gap_out (by omega), f_dw_out (by omega)]
  unfold f_fill
  rw [if_pos hk]
theorem f_drop_out {d : xd} {o n i q k : Nat} (h : k < o + 1 ∨ o + 8 < k) (h10 : k ≠ o + 10) : f_drop d o n i q k = f_dw d o i k := by
  rw [f_drop_is, x_r_ne2 h10, f_gap_out h]
theorem f_drop_1 {d : xd} {o n i q : Nat} : f_drop d o n i q (o + 1) 0 = nI (n - 1) := by
  rw [f_drop_is, x_r_ne2 (by omega), f_gap_cnt]
theorem f_dw_13 {d : xd} {o i j : Nat} : f_dw d o i (o + 13) j = if j = 2 then d (o + 13) 2 + d (o + 8) i else if j = 1 then d (o + 13) 1 + d (o + 7) i else if j = 0 then d (o + 13) 0 + d (o + 6) i else d (o + 13) j := by
  unfold f_dw
  rw [x_prow, x_prow, x_prow]
  rfl
theorem g_rmv_l {z : Nat → Int32} {i n q w j : Nat} (hi : i < 8) (h6 : q ≤ 6) (hw : w < 7) (hj : j < 7) : g_rmv z i n q (6 + 8 * w + j) = if j < i then z (6 + 8 * w + j) else z (6 + 8 * w + j + 1) := by
  unfold g_rmv
  rw [x_upd_ne (by omega), g_fg_out _ (by omega), g_gaps_at _ hi 7 (Nat.le_refl 7) w hw j hj, if_pos hw]
  unfold g_bk
  rw [x_upd_ne (by omega), x_upd_ne (by omega), x_upd_ne (by omega), x_upd_ne (by omega), x_upd_ne (by omega), x_upd_ne (by omega)]
theorem g_rmv_h {z : Nat → Int32} {i n q j : Nat} (hj : 62 + q ≤ j) : g_rmv z i n q j = z j := by
  unfold g_rmv
  rw [x_upd_ne (by omega), g_fg_out _ (by omega), g_gaps_out _ (by omega) 7 (Nat.le_refl 7)]
  unfold g_bk
  rw [x_upd_ne (by omega), x_upd_ne (by omega), x_upd_ne (by omega)]
theorem g_rmv_m {z : Nat → Int32} {i n q k : Nat} (hk : k < q) : g_rmv z i n q (62 + k) = if z (62 + k) - 1 = nI i then 0 else if nI i < z (62 + k) - 1 then z (62 + k) - 1 else z (62 + k) - 1 + 1 := by
  unfold g_rmv
  rw [x_upd_ne (by omega)]
  unfold g_fg
  rw [if_pos (show 62 ≤ 62 + k ∧ 62 + k < 62 + q by omega), g_gaps_out _ (by omega) 7 (Nat.le_refl 7)]
  unfold g_bk
  rw [x_upd_ne (by omega), x_upd_ne (by omega), x_upd_ne (by omega)]
theorem g_rmv_b {z : Nat → Int32} {i n q j : Nat} (h0 : j ≠ 0) (hj : j < 6) : g_rmv z i n q j = g_bk z i j := by
  unfold g_rmv
  rw [x_upd_ne h0, g_fg_out _ (by omega), g_gaps_out _ (by omega) 7 (Nat.le_refl 7)]
theorem g_bk_2 {z : Nat → Int32} {i : Nat} : g_bk z i 2 = z 2 := by
  unfold g_bk
  rw [x_upd_ne (by omega), x_upd_ne (by omega), x_upd_ne (by omega)]
theorem g_bk_3 {z : Nat → Int32} {i : Nat} : g_bk z i 3 = z 3 + z (38 + i) := by
  unfold g_bk
  rw [x_upd_ne (by omega), x_upd_ne (by omega), x_upd_at]
theorem g_bk_4 {z : Nat → Int32} {i : Nat} : g_bk z i 4 = z 4 + z (46 + i) := by
  unfold g_bk
  rw [x_upd_ne (by omega), x_upd_at]
theorem g_bk_5 {z : Nat → Int32} {i : Nat} : g_bk z i 5 = z 5 + z (54 + i) := x_upd_at
theorem t_drop {B : Nat} {d : xd} {o m i q : Nat} {z : Nat → Int32} (h : r_T B d o z (m + 1) q) (hi : i < m + 1) (hp : ∃ a, a ≤ 99 ∧ d (o + 13) 1 + d (o + 7) i = nI a) (hB : B < 100000) : r_T B (f_drop d o (m + 1) i q) o (g_rmv z i (m + 1) q) m q := by
  obtain ⟨⟨e1, e2, e3, e4, e5, e6, e70, e71, e72, e73⟩, ⟨v1, v2, v3, v4, v5⟩, m9, bl⟩ := h
  have hi8 : i < 8 := by omega
  obtain ⟨i2, i3, i4, i5, i6, i7, i8⟩ := e5 i hi
  have G : ∀ w, w < 7 → ∀ j, j < m → g_rmv z i (m + 1) q (6 + 8 * w + j) = if j < i then z (6 + 8 * w + j) else z (6 + 8 * w + j + 1) := fun w hw j hj => g_rmv_l hi8 v2 hw (by omega)
  have F : ∀ w, 2 ≤ w → w ≤ 8 → ∀ j, j < m → f_drop d o (m + 1) i q (o + w) j = if j < i then d (o + w) j else d (o + w) (j + 1) := fun w h2 h8 j hj => f_drop_row h2 h8 hj (by omega)
  have O : ∀ k, k = o + 9 ∨ k = o + 11 ∨ k = o + 12 → f_drop d o (m + 1) i q k = d k := fun k hk => by rw [f_drop_out (by omega) (by omega), f_dw_out (by omega)]
  have P13 : ∀ j, f_drop d o (m + 1) i q (o + 13) j = if j = 2 then d (o + 13) 2 + d (o + 8) i else if j = 1 then d (o + 13) 1 + d (o + 7) i else if j = 0 then d (o + 13) 0 + d (o + 6) i else d (o + 13) j := fun j => by rw [f_drop_out (by omega) (by omega), f_dw_13]
  have M : ∀ k, k < q → f_drop d o (m + 1) i q (o + 10) k = g_rmv z i (m + 1) q (62 + k) - 1 ∧ (f_drop d o (m + 1) i q (o + 10) k = -1 ∨ ∃ w, w < m ∧ f_drop d o (m + 1) i q (o + 10) k = nI w) := by
    intro k hk
    obtain ⟨c1, -, -⟩ := v4 k hk
    rw [f_drop_10 hk, g_rmv_m hk, ← (e6 k hk).1]
    unfold f_fg
    by_cases y : d (o + 10) k = nI i
    · rw [if_pos y, if_pos y]
      exact ⟨by decide, Or.inl rfl⟩
    · rw [if_neg y, if_neg y]
      by_cases y2 : nI i < d (o + 10) k
      · rw [if_pos y2, if_pos y2]
        refine ⟨rfl, ?_⟩
        rcases c1 with c1 | ⟨w, hw, c1⟩
        · rw [c1] at y2
          exact absurd (Int32.lt_trans (s_m1 (a := i) (by omega)) y2) Int32.lt_irrefl
        · rw [c1] at y2 ⊢
          have y3 := (nI_ltI (by omega) (by omega)).mp y2
          exact Or.inr ⟨w - 1, by omega, pk_sub (a := w) (b := 1) (by omega)⟩
      · rw [if_neg y2, if_neg y2]
        refine ⟨by grind, ?_⟩
        rcases c1 with c1 | ⟨w, hw, c1⟩
        · exact Or.inl c1
        · rw [c1] at y2 y
          have y3 : ¬ i < w := fun q1 => y2 ((nI_ltI (by omega) (by omega)).mpr q1)
          have y4 : w ≠ i := fun q1 => y (by rw [q1])
          exact Or.inr ⟨w, by omega, c1⟩
  refine ⟨⟨?_, ?_, ?_, ?_, fun j hj => ?_, fun k hk => ?_, ?_⟩, ⟨by omega, v2, fun j hj => ?_, fun k hk => ?_, ?_⟩, ?_, ?_⟩
  · rw [f_drop_1]; rfl
  · unfold g_rmv; rw [x_upd_at]; rfl
  · rw [O _ (by omega)]; exact e3
  · rw [g_rmv_b (by omega) (by omega)]
    unfold g_bk
    rw [x_upd_ne (by omega), x_upd_ne (by omega), x_upd_ne (by omega)]
    exact e4
  · rw [F 2 (by omega) (by omega) j hj, F 3 (by omega) (by omega) j hj, F 4 (by omega) (by omega) j hj, F 5 (by omega) (by omega) j hj, F 6 (by omega) (by omega) j hj, F 7 (by omega) (by omega) j hj, F 8 (by omega) (by omega) j hj]
    have g0 := G 0 (by omega) j hj
    have g1 := G 1 (by omega) j hj
    have g2 := G 2 (by omega) j hj
    have g3 := G 3 (by omega) j hj
    have g4 := G 4 (by omega) j hj
    have g5 := G 5 (by omega) j hj
    have g6 := G 6 (by omega) j hj
    simp only [Nat.mul_zero, Nat.mul_one, Nat.add_zero, show 6 + 8 * 2 = 22 from rfl, show 6 + 8 * 3 = 30 from rfl, show 6 + 8 * 4 = 38 from rfl, show 6 + 8 * 5 = 46 from rfl, show 6 + 8 * 6 = 54 from rfl, show 6 + 8 = 14 from rfl] at g0 g1 g2 g3 g4 g5 g6
    rw [g0, g1, g2, g3, g4, g5, g6]
    by_cases y : j < i
    · rw [if_pos y, if_pos y, if_pos y, if_pos y, if_pos y, if_pos y, if_pos y, if_pos y, if_pos y, if_pos y, if_pos y, if_pos y, if_pos y, if_pos y]
      exact e5 j (by omega)
    · rw [if_neg y, if_neg y, if_neg y, if_neg y, if_neg y, if_neg y, if_neg y, if_neg y, if_neg y, if_neg y, if_neg y, if_neg y, if_neg y, if_neg y]
      exact e5 (j + 1) (by omega)
  · rw [O (o + 11) (by omega), O (o + 12) (by omega), g_rmv_h (j := 68 + k) (by omega), g_rmv_h (j := 74 + k) (by omega)]
    exact ⟨(M k hk).1, (e6 k hk).2⟩
  · rw [P13, P13, P13, P13, g_rmv_b (by omega) (by omega), g_rmv_b (by omega) (by omega), g_rmv_b (by omega) (by omega), g_rmv_b (by omega) (by omega)]
    rw [g_bk_2, g_bk_3, g_bk_4, g_bk_5]
    refine ⟨e70, ?_, ?_, ?_⟩
    · show d (o + 13) 0 + d (o + 6) i = _
      rw [e71, i6]
    · show d (o + 13) 1 + d (o + 7) i = _
      rw [e72, i7]
    · show d (o + 13) 2 + d (o + 8) i = _
      rw [e73, i8]
  · rw [F 2 (by omega) (by omega) j hj, F 3 (by omega) (by omega) j hj, F 4 (by omega) (by omega) j hj, F 6 (by omega) (by omega) j hj, F 7 (by omega) (by omega) j hj]
    by_cases y : j < i
    · rw [if_pos y, if_pos y, if_pos y, if_pos y, if_pos y]
      exact v3 j (by omega)
    · rw [if_neg y, if_neg y, if_neg y, if_neg y, if_neg y]
      exact v3 (j + 1) (by omega)
  · rw [O (o + 11) (by omega), O (o + 12) (by omega)]
    exact ⟨(M k hk).2, (v4 k hk).2⟩
  · rw [P13]; exact hp
  · obtain ⟨b, t, h1, h2, h3⟩ := m9
    have hg := f_sn_gap (f := b) (g := fun j => if j < i then b j else b (j + 1)) hi (fun j hj => if_pos hj) (fun j hj _ => if_neg (by omega))
    refine ⟨fun j => if j < i then b j else b (j + 1), t + b i, fun j hj => ?_, ?_, by omega⟩
    · show _ = nI (if j < i then b j else b (j + 1))
      rw [F 8 (by omega) (by omega) j hj]
      by_cases y : j < i
      · rw [if_pos y, if_pos y]; exact h1 j (by omega)
      · rw [if_neg y, if_neg y]; exact h1 (j + 1) (by omega)
    · rw [P13]
      show d (o + 13) 2 + d (o + 8) i = _
      rw [h2, h1 i hi, nI_add]
  · obtain ⟨b1, b2, b3⟩ := bl
    have s6 := f_sum_gap (f := d (o + 6)) (g := f_drop d o (m + 1) i q (o + 6)) hi (fun j hj => by rw [F 6 (by omega) (by omega) j (by omega), if_pos hj]) (fun j hj hj2 => by rw [F 6 (by omega) (by omega) j hj2, if_neg (by omega)])
    have s7 := f_sum_gap (f := d (o + 7)) (g := f_drop d o (m + 1) i q (o + 7)) hi (fun j hj => by rw [F 7 (by omega) (by omega) j (by omega), if_pos hj]) (fun j hj hj2 => by rw [F 7 (by omega) (by omega) j hj2, if_neg (by omega)])
    have s8 := f_sum_gap (f := d (o + 8)) (g := f_drop d o (m + 1) i q (o + 8)) hi (fun j hj => by rw [F 8 (by omega) (by omega) j (by omega), if_pos hj]) (fun j hj hj2 => by rw [F 8 (by omega) (by omega) j hj2, if_neg (by omega)])
    unfold f_bal
    simp only [P13]
    simp
    rw [← s6] at b1
    rw [← s7] at b2
    rw [← s8] at b3
    refine ⟨?_, ?_, ?_⟩
    · grind
    · grind
    · grind
