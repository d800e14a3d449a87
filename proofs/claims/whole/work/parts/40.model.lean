-- STAND-INS
theorem n : True := trivial
theorem i : True := trivial
theorem k : True := trivial
theorem q : True := trivial
theorem u : True := trivial
theorem v : True := trivial
theorem w : True := trivial
theorem j : True := trivial
theorem o : True := trivial
theorem a : True := trivial
theorem b : True := trivial
theorem y : True := trivial
theorem z : True := trivial
theorem r : True := trivial
theorem t : True := trivial
theorem f : True := trivial
theorem g : True := trivial
theorem o2 : True := trivial
theorem a2 : True := trivial
theorem hlt : True := trivial
theorem hltk : True := trivial
theorem hlt3 : True := trivial
theorem hlt4 : True := trivial
theorem hn : True := trivial
theorem hq : True := trivial
theorem hm : True := trivial
theorem hi : True := trivial
theorem hi2 : True := trivial
theorem hi3 : True := trivial
theorem hk : True := trivial
theorem hj : True := trivial
theorem hb : True := trivial
theorem hs : True := trivial
theorem hw : True := trivial
theorem hx : True := trivial
theorem hz : True := trivial
theorem hv : True := trivial
theorem hr : True := trivial
theorem hc : True := trivial
theorem hu : True := trivial
theorem hp : True := trivial
theorem hl : True := trivial
theorem hh : True := trivial
theorem e : True := trivial
theorem e9 : True := trivial
theorem sh : True := trivial
theorem a0 : True := trivial
theorem c9 : True := trivial
theorem k9 : True := trivial
theorem m9 : True := trivial
theorem mm : True := trivial
theorem ha : True := trivial
theorem ho : True := trivial
theorem hS : True := trivial
theorem ha0 : True := trivial
theorem hs9 : True := trivial
theorem hk0 : True := trivial
theorem hk1 : True := trivial
theorem hk9 : True := trivial
theorem hap : True := trivial
theorem hoo : True := trivial
theorem qh : True := trivial
theorem ex : True := trivial
theorem ih : True := trivial
theorem ihk : True := trivial
theorem ih1 : True := trivial
theorem ih2 : True := trivial
theorem ih3 : True := trivial
theorem ih4 : True := trivial
theorem ihj : True := trivial
theorem st : True := trivial
theorem lst : True := trivial
theorem args0 : True := trivial
theorem hcn : True := trivial
theorem hcir : True := trivial
theorem q8 : True := trivial
theorem z8 : True := trivial
theorem h0 : True := trivial
theorem h1 : True := trivial
theorem h2 : True := trivial
theorem h3 : True := trivial
theorem h4 : True := trivial
theorem h5 : True := trivial
theorem h7 : True := trivial
theorem h10 : True := trivial
theorem h11 : True := trivial
theorem h12 : True := trivial
theorem h13 : True := trivial
theorem h14 : True := trivial
theorem h15 : True := trivial
theorem h16 : True := trivial
theorem h17 : True := trivial
theorem h18 : True := trivial
theorem h19 : True := trivial
theorem h20 : True := trivial
theorem h21 : True := trivial
theorem h22 : True := trivial
theorem h23 : True := trivial
theorem h24 : True := trivial
theorem h25 : True := trivial
theorem h26 : True := trivial
theorem h27 : True := trivial
theorem h28 : True := trivial
theorem h29 : True := trivial
theorem h30 : True := trivial
theorem h31 : True := trivial
theorem h32 : True := trivial
theorem h33 : True := trivial
theorem h34 : True := trivial
theorem h35 : True := trivial
theorem h36 : True := trivial
theorem h37 : True := trivial
theorem h38 : True := trivial
theorem h39 : True := trivial
theorem h40 : True := trivial
theorem h41 : True := trivial
theorem h42 : True := trivial
theorem h43 : True := trivial
theorem h44 : True := trivial
theorem h45 : True := trivial
theorem h46 : True := trivial
theorem h47 : True := trivial
theorem h48 : True := trivial
theorem h49 : True := trivial
theorem h50 : True := trivial
theorem h51 : True := trivial
theorem h52 : True := trivial
theorem h53 : True := trivial
theorem h54 : True := trivial
theorem h55 : True := trivial
theorem h56 : True := trivial
theorem h57 : True := trivial
theorem h58 : True := trivial
theorem h59 : True := trivial
theorem h60 : True := trivial
theorem h61 : True := trivial
theorem h62 : True := trivial
theorem h63 : True := trivial
theorem h64 : True := trivial
theorem h65 : True := trivial
theorem h66 : True := trivial
theorem h67 : True := trivial
theorem h68 : True := trivial
theorem h69 : True := trivial
theorem h70 : True := trivial
theorem h71 : True := trivial
theorem h72 : True := trivial
theorem h73 : True := trivial
theorem h74 : True := trivial
theorem h75 : True := trivial
theorem h76 : True := trivial
theorem h77 : True := trivial
theorem h78 : True := trivial
theorem h79 : True := trivial
theorem h80 : True := trivial
theorem h81 : True := trivial
theorem h82 : True := trivial
theorem h83 : True := trivial
theorem h84 : True := trivial
theorem h85 : True := trivial
theorem h86 : True := trivial
theorem h87 : True := trivial
theorem h88 : True := trivial
theorem h89 : True := trivial
theorem h90 : True := trivial
theorem h91 : True := trivial
theorem h92 : True := trivial
theorem h93 : True := trivial
theorem h94 : True := trivial
theorem h95 : True := trivial
theorem h96 : True := trivial
theorem h97 : True := trivial
theorem h98 : True := trivial
theorem h99 : True := trivial
theorem h100 : True := trivial
theorem h101 : True := trivial
theorem h102 : True := trivial
theorem h103 : True := trivial
theorem h104 : True := trivial
theorem h105 : True := trivial
theorem h106 : True := trivial
theorem h107 : True := trivial
theorem h108 : True := trivial
theorem h109 : True := trivial
theorem h110 : True := trivial
theorem h111 : True := trivial
theorem h112 : True := trivial
theorem h113 : True := trivial
theorem h114 : True := trivial
theorem h115 : True := trivial
theorem h116 : True := trivial
theorem h117 : True := trivial
theorem h118 : True := trivial
theorem h119 : True := trivial
theorem h120 : True := trivial
theorem h121 : True := trivial
theorem h122 : True := trivial
theorem h123 : True := trivial
theorem h124 : True := trivial
theorem h125 : True := trivial
theorem h126 : True := trivial
theorem h127 : True := trivial
theorem h128 : True := trivial
theorem h129 : True := trivial
theorem h130 : True := trivial
theorem h131 : True := trivial
theorem h132 : True := trivial
theorem h133 : True := trivial
theorem h134 : True := trivial
theorem h135 : True := trivial
theorem h136 : True := trivial
theorem h137 : True := trivial
theorem h138 : True := trivial
theorem h139 : True := trivial
theorem h140 : True := trivial
theorem h141 : True := trivial
theorem h142 : True := trivial
theorem h143 : True := trivial
theorem h144 : True := trivial
theorem h145 : True := trivial
theorem h146 : True := trivial
theorem h147 : True := trivial
theorem h148 : True := trivial
theorem h149 : True := trivial
theorem h150 : True := trivial
theorem h151 : True := trivial
theorem h152 : True := trivial
theorem h153 : True := trivial
theorem h154 : True := trivial
theorem h155 : True := trivial
theorem h156 : True := trivial
theorem h157 : True := trivial
theorem h158 : True := trivial
theorem h159 : True := trivial
theorem h160 : True := trivial
theorem h161 : True := trivial
theorem h162 : True := trivial
theorem h163 : True := trivial
theorem h164 : True := trivial
theorem h165 : True := trivial
theorem h166 : True := trivial
theorem h167 : True := trivial
theorem h168 : True := trivial
theorem h169 : True := trivial
theorem h170 : True := trivial
theorem h171 : True := trivial
theorem h172 : True := trivial
theorem h173 : True := trivial
theorem h174 : True := trivial
theorem h175 : True := trivial
theorem h176 : True := trivial
theorem h177 : True := trivial
theorem h178 : True := trivial
theorem h179 : True := trivial
theorem h180 : True := trivial
theorem h181 : True := trivial
theorem h182 : True := trivial
theorem h183 : True := trivial
theorem h184 : True := trivial
theorem h185 : True := trivial
theorem h186 : True := trivial
theorem h187 : True := trivial
theorem h188 : True := trivial
theorem h189 : True := trivial
theorem h190 : True := trivial
theorem h191 : True := trivial
theorem h192 : True := trivial
theorem h193 : True := trivial
theorem h194 : True := trivial
theorem h195 : True := trivial
theorem h196 : True := trivial
theorem h197 : True := trivial
theorem h198 : True := trivial
theorem h199 : True := trivial
theorem L0 : True := trivial
theorem L1 : True := trivial
theorem L2 : True := trivial
theorem L3 : True := trivial
theorem L4 : True := trivial
theorem L5 : True := trivial
theorem L6 : True := trivial
theorem L7 : True := trivial
theorem L8 : True := trivial
theorem L9 : True := trivial
theorem L10 : True := trivial
theorem L11 : True := trivial
theorem L12 : True := trivial
theorem L13 : True := trivial
theorem L14 : True := trivial
theorem L15 : True := trivial
theorem L16 : True := trivial
theorem L17 : True := trivial
theorem L18 : True := trivial
theorem L19 : True := trivial
theorem L20 : True := trivial
theorem L21 : True := trivial
theorem L22 : True := trivial
theorem L23 : True := trivial
theorem L24 : True := trivial
theorem L25 : True := trivial
theorem L26 : True := trivial
theorem L27 : True := trivial
theorem L28 : True := trivial
theorem L29 : True := trivial
theorem L30 : True := trivial
theorem L31 : True := trivial
theorem L32 : True := trivial
theorem L33 : True := trivial
theorem L34 : True := trivial
theorem L35 : True := trivial
theorem L36 : True := trivial
theorem L37 : True := trivial
theorem L38 : True := trivial
theorem L39 : True := trivial
theorem L40 : True := trivial
theorem L41 : True := trivial
theorem L42 : True := trivial
theorem L43 : True := trivial
theorem L44 : True := trivial
theorem L45 : True := trivial
theorem L46 : True := trivial
theorem L47 : True := trivial
theorem L48 : True := trivial
theorem L49 : True := trivial
theorem L50 : True := trivial
theorem L51 : True := trivial
theorem L52 : True := trivial
theorem L53 : True := trivial
theorem L54 : True := trivial
theorem L55 : True := trivial
theorem L56 : True := trivial
theorem L57 : True := trivial
theorem L58 : True := trivial
theorem L59 : True := trivial
theorem L60 : True := trivial
theorem L61 : True := trivial
theorem L62 : True := trivial
theorem L63 : True := trivial
theorem L64 : True := trivial
theorem L65 : True := trivial
theorem L66 : True := trivial
theorem L67 : True := trivial
theorem L68 : True := trivial
theorem L69 : True := trivial
theorem L70 : True := trivial
theorem L71 : True := trivial
theorem L72 : True := trivial
theorem L73 : True := trivial
theorem L74 : True := trivial
theorem L75 : True := trivial
theorem L76 : True := trivial
theorem L77 : True := trivial
theorem L78 : True := trivial
theorem L79 : True := trivial
theorem L80 : True := trivial
theorem L81 : True := trivial
theorem L82 : True := trivial
theorem L83 : True := trivial
theorem L84 : True := trivial
theorem L85 : True := trivial
theorem L86 : True := trivial
theorem L87 : True := trivial
theorem L88 : True := trivial
theorem L89 : True := trivial
theorem L90 : True := trivial
theorem L91 : True := trivial
theorem L92 : True := trivial
theorem L93 : True := trivial
theorem L94 : True := trivial
theorem L95 : True := trivial
theorem L96 : True := trivial
theorem L97 : True := trivial
theorem L98 : True := trivial
theorem L99 : True := trivial
theorem L100 : True := trivial
theorem L101 : True := trivial
theorem L102 : True := trivial
theorem L103 : True := trivial
theorem L104 : True := trivial
theorem L105 : True := trivial
theorem L106 : True := trivial
theorem L107 : True := trivial
theorem L108 : True := trivial
theorem L109 : True := trivial
theorem L110 : True := trivial
theorem L111 : True := trivial
theorem L112 : True := trivial
theorem L113 : True := trivial
theorem L114 : True := trivial
theorem L115 : True := trivial
theorem L116 : True := trivial
theorem L117 : True := trivial
theorem L118 : True := trivial
theorem L119 : True := trivial
theorem L120 : True := trivial
theorem L121 : True := trivial
theorem L122 : True := trivial
theorem L123 : True := trivial
theorem L124 : True := trivial
theorem L125 : True := trivial
theorem L126 : True := trivial
theorem L127 : True := trivial
theorem L128 : True := trivial
theorem L129 : True := trivial
theorem L130 : True := trivial
theorem L131 : True := trivial
theorem L132 : True := trivial
theorem L133 : True := trivial
theorem L134 : True := trivial
theorem L135 : True := trivial
theorem L136 : True := trivial
theorem L137 : True := trivial
theorem L138 : True := trivial
theorem L139 : True := trivial
theorem L140 : True := trivial
theorem L141 : True := trivial
theorem L142 : True := trivial
theorem L143 : True := trivial
theorem L144 : True := trivial
theorem L145 : True := trivial
theorem L146 : True := trivial
theorem L147 : True := trivial
theorem L148 : True := trivial
theorem L149 : True := trivial
theorem L150 : True := trivial
theorem L151 : True := trivial
theorem L152 : True := trivial
theorem L153 : True := trivial
theorem L154 : True := trivial
theorem L155 : True := trivial
theorem L156 : True := trivial
theorem L157 : True := trivial
theorem L158 : True := trivial
theorem L159 : True := trivial
theorem L160 : True := trivial
theorem L161 : True := trivial
theorem L162 : True := trivial
theorem L163 : True := trivial
theorem L164 : True := trivial
theorem L165 : True := trivial
theorem L166 : True := trivial
theorem L167 : True := trivial
theorem L168 : True := trivial
theorem L169 : True := trivial
theorem L170 : True := trivial
theorem L171 : True := trivial
theorem L172 : True := trivial
theorem L173 : True := trivial
theorem L174 : True := trivial
theorem L175 : True := trivial
theorem L176 : True := trivial
theorem L177 : True := trivial
theorem L178 : True := trivial
theorem L179 : True := trivial
theorem L180 : True := trivial
theorem L181 : True := trivial
theorem L182 : True := trivial
theorem L183 : True := trivial
theorem L184 : True := trivial
theorem L185 : True := trivial
theorem L186 : True := trivial
theorem L187 : True := trivial
theorem L188 : True := trivial
theorem L189 : True := trivial
theorem L190 : True := trivial
theorem L191 : True := trivial
theorem L192 : True := trivial
theorem L193 : True := trivial
theorem L194 : True := trivial
theorem L195 : True := trivial
theorem L196 : True := trivial
theorem L197 : True := trivial
theorem L198 : True := trivial
theorem L199 : True := trivial
-- STAND-INS
theorem va_cpy_0 (f g : Nat → Int32) (a t : Nat) : va_cpy f g a t 0 = g := by
  funext j
  simp only [va_cpy]
  rw [if_neg (by omega)]
theorem va_cpy_s (f g : Nat → Int32) (a t i : Nat) : upd (va_cpy f g a t i) (t + i) (f (a + i)) = va_cpy f g a t (i + 1) := by
  funext j
  simp only [upd, va_cpy]
  by_cases h : j = t + i
  · subst h
    rw [if_pos rfl, if_pos (by omega)]
    congr 1
    omega
  · rw [if_neg h]
    by_cases h2 : t ≤ j ∧ j < t + i
    · rw [if_pos h2, if_pos (by omega)]
    · rw [if_neg h2, if_neg (by omega)]
def g_bg (d : xd) : xd := x_r d 177 (va_cpy (d 176) (d 177) 0 0 80)
abbrev g_th (d : xd) (k : Int32) : xd := x_p d 175 12 k
def g_kf (d : xd) : xd := x_r d 176 (va_cpy (d 177) (d 176) 0 0 80)
def g_kn (d : xd) (c : Nat) : xd := x_p (x_r d 178 (va_cpy (d 177) (d 178) 0 (c * 80) 80)) 175 3 (nI (c + 1))
def g_sh (d : xd) : Nat → Int32 := f_fill (fun j => d 178 (j + 80)) (d 178) 560
def g_ks (d : xd) : xd := x_p (x_r (x_p (x_r d 178 (g_sh d)) 175 3 7) 178 (va_cpy (d 177) (g_sh d) 0 560 80)) 175 3 8
def g_kp (d : xd) (c : Nat) : xd := if c = 8 then g_ks d else g_kn d c

set_option maxHeartbeats 1000000 in
set_option maxRecDepth 100000 in
theorem c_M_in (l : Launch) (G : xG) (d : xd) (x lo hi : Int32) : x_M G l yX12_in wsX12_in 1 0 0 [.int x, .int lo, .int hi] d (some (.int (x_bi (lo ≤ x ∧ x ≤ hi)))) d := by
  refine x_start (cc := cX12_in) (maxL := 3) (ret := (some .boolean)) (own := RX12) (by decide) rfl rfl (Nat.le_of_ble_eq_true rfl) (lst := [(0, .int x), (1, .int lo), (2, .int hi)]) rfl ?_
  intro p e s m args below meth c C hr hlocks
  refine a_iload_n C dX12_in_0 0 rfl ?_
  refine a_iload_n C dX12_in_1 1 rfl ?_
  refine a_icmp_lt C dX12_in_2 (tgt := 14) (by decide) (fun h2 => ?_) (fun h2 => ?_)
  · skip
    refine a_iconst C dX12_in_14 (v := 0) (by decide) ?_
    exact a_zret C hlocks hr rfl dX12_in_15 (x_bi_f (fun h => absurd h.1 (Int32.not_le.mpr h2))).symm rfl
  · skip
    refine a_iload_n C dX12_in_5 0 rfl ?_
    refine a_iload_n C dX12_in_6 2 rfl ?_
    refine a_icmp_gt C dX12_in_7 (tgt := 14) (by decide) (fun h7 => ?_) (fun h7 => ?_)
    · skip
      refine a_iconst C dX12_in_14 (v := 0) (by decide) ?_
      exact a_zret C hlocks hr rfl dX12_in_15 (x_bi_f (fun h => absurd h.2 (Int32.not_le.mpr h7))).symm rfl
    · skip
      refine a_iconst C dX12_in_10 (v := 1) (by decide) ?_
      refine a_goto C dX12_in_11 (tgt := 15) (by decide) ?_
      exact a_zret C hlocks hr rfl dX12_in_15 (x_bi_t ⟨Int32.not_lt.mp h2, Int32.not_lt.mp h7⟩).symm rfl

set_option maxHeartbeats 1000000 in
set_option maxRecDepth 100000 in
theorem c_M_least (l : Launch) (G : xG) (d : xd) (x y : Int32) : x_M G l yX12_least wsX12_least 1 0 0 [.int x, .int y] d (some (.int (if x < y then x else y))) d := by
  refine x_start (cc := cX12_least) (maxL := 2) (ret := (some .int)) (own := RX12) (by decide) rfl rfl (Nat.le_of_ble_eq_true rfl) (lst := [(0, .int x), (1, .int y)]) rfl ?_
  intro p e s m args below meth c C hr hlocks
  refine a_iload_n C dX12_least_0 0 rfl ?_
  refine a_iload_n C dX12_least_1 1 rfl ?_
  refine a_icmp_ge C dX12_least_2 (tgt := 9) (by decide) (fun h2 => ?_) (fun h2 => ?_)
  · skip
    refine a_iload_n C dX12_least_9 1 rfl ?_
    exact a_iret C hlocks hr dX12_least_10 (by rw [if_neg (Int32.not_lt.mpr h2)]) rfl
  · skip
    refine a_iload_n C dX12_least_5 0 rfl ?_
    refine a_goto C dX12_least_6 (tgt := 10) (by decide) ?_
    exact a_iret C hlocks hr dX12_least_10 (by rw [if_pos (Int32.not_le.mp h2)]) rfl

set_option maxHeartbeats 1000000 in
set_option maxRecDepth 100000 in
theorem c_M_done (l : Launch) (G : xG) (d : xd) (x : Int32) : x_M G l yX12_done wsX12_done 1 0 0 [.ref (x_b G + 175), .int x] d (some (.int x)) (g_th d 0) := by
  have iX12 : ∀ w ∈ u_ws RX12 TX12 16, w ∈ wsX12_done := by decide +kernel
  refine x_start (cc := cX12_done) (maxL := 2) (ret := (some .int)) (own := RX12) (by decide) rfl rfl (Nat.le_of_ble_eq_true rfl) (lst := [(0, .ref (x_b G + 175)), (1, .int x)]) rfl ?_
  intro p e s m args below meth c C hr hlocks
  refine a_aload_n C dX12_done_0 0 rfl ?_
  refine a_iconst C dX12_done_1 (v := 0) (by decide) ?_
  refine a_putI C (k := 175) iX12 tyX12_ok nmX12 x_k175 rfl (j := 12) rfl (by decide) (by decide +kernel) rfl (ty := .int) (by decide +kernel) rfl rfl dX12_done_2 ?_
  refine a_iload_n C dX12_done_5 1 rfl ?_
  exact a_iret C hlocks hr dX12_done_6 rfl rfl

set_option maxHeartbeats 1000000 in
set_option maxRecDepth 100000 in
theorem c_M_fails (l : Launch) (G : xG) (d : xd) (x : Int32) : x_M G l yX12_fails wsX12_fails 1 0 0 [.ref (x_b G + 175), .int x] d (some (.int 0)) (g_th d x) := by
  have iX12 : ∀ w ∈ u_ws RX12 TX12 16, w ∈ wsX12_fails := by decide +kernel
  refine x_start (cc := cX12_fails) (maxL := 2) (ret := (some .int)) (own := RX12) (by decide) rfl rfl (Nat.le_of_ble_eq_true rfl) (lst := [(0, .ref (x_b G + 175)), (1, .int x)]) rfl ?_
  intro p e s m args below meth c C hr hlocks
  refine a_aload_n C dX12_fails_0 0 rfl ?_
  refine a_iload_n C dX12_fails_1 1 rfl ?_
  refine a_putI C (k := 175) iX12 tyX12_ok nmX12 x_k175 rfl (j := 12) rfl (by decide) (by decide +kernel) rfl (ty := .int) (by decide +kernel) rfl rfl dX12_fails_2 ?_
  refine a_iconst C dX12_fails_5 (v := 0) (by decide) ?_
  exact a_iret C hlocks hr dX12_fails_6 rfl rfl

set_option maxHeartbeats 1000000 in
set_option maxRecDepth 100000 in
theorem c_M_thrown (l : Launch) (G : xG) (d : xd)  : x_M G l yX12_thrown wsX12_thrown 1 0 0 [.ref (x_b G + 175)] d (some (.int (d 175 12))) d := by
  have iX12 : ∀ w ∈ u_ws RX12 TX12 16, w ∈ wsX12_thrown := by decide +kernel
  refine x_start (cc := cX12_thrown) (maxL := 1) (ret := (some .int)) (own := RX12) (by decide) rfl rfl (Nat.le_of_ble_eq_true rfl) (lst := [(0, .ref (x_b G + 175))]) rfl ?_
  intro p e s m args below meth c C hr hlocks
  refine a_aload_n C dX12_thrown_0 0 rfl ?_
  refine a_getI C (k := 175) iX12 x_k175 rfl (j := 12) rfl (by decide) (by decide +kernel) dX12_thrown_1 ?_
  exact a_iret C hlocks hr dX12_thrown_4 rfl rfl

set_option maxHeartbeats 1000000 in
set_option maxRecDepth 100000 in
theorem c_M_copy (l : Launch) (G : xG) (d : xd) (k0 k1 a t L0 L1 : Nat) (hk0 : x_sh[k0]? = some (.inr (0, L0))) (hk1 : x_sh[k1]? = some (.inr (0, L1))) (hne : k0 ≠ k1) (ha : a + 80 ≤ L0) (ht : t + 80 ≤ L1) (hL0 : L0 < 1000) (hL1 : L1 < 1000) : x_M G l yX12_copy wsX12_copy 1 0 0 [.ref (x_b G + k0), .int (nI a), .ref (x_b G + k1), .int (nI t)] d none (x_r d k1 (va_cpy (d k0) (d k1) a t 80)) := by
  refine x_start (cc := cX12_copy) (maxL := 5) (ret := none) (own := RX12) (by decide) rfl rfl (Nat.le_of_ble_eq_true rfl) (lst := [(0, .ref (x_b G + k0)), (1, .int (nI a)), (2, .ref (x_b G + k1)), (3, .int (nI t))]) rfl ?_
  intro p e s m args below meth c C hr hlocks
  refine a_iconst C dX12_copy_0 (v := 0) (by decide) ?_
  refine a_istore C dX12_copy_1 (by decide) (lst2 := [(4, .int 0), (0, .ref (x_b G + k0)), (1, .int (nI a)), (2, .ref (x_b G + k1)), (3, .int (nI t))]) rfl ?_
  have L3 : ∀ (j i : Nat), i ≤ 80 → 80 < i + j → Ab G p l e (x_rm 1 0 0) s m args below meth c 5 0 0 (MQ below (x_Q G none (x_r d k1 (va_cpy (d k0) (d k1) a t 80))) args s 0 0 (x_A G)) 3 [(4, .int (nI i)), (0, .ref (x_b G + k0)), (1, .int (nI a)), (2, .ref (x_b G + k1)), (3, .int (nI t))] [] (x_r d k1 (va_cpy (d k0) (d k1) a t i)) := by
    intro j
    induction j with
    | zero => intro i h1 h2; exact absurd h2 (by omega)
    | succ j ih =>
      intro i hi hj 
      refine a_iload C dX12_copy_3 0 rfl ?_
      refine a_bipush C dX12_copy_5 (v := 80) (by decide) ?_
      refine a_icmp_ge C dX12_copy_7 (tgt := 28) (by decide) (fun h7 => ?_) (fun h7 => ?_)
      · skip
        have e := x_ge (n := 80) h7 hi (by omega)
        subst e
        exact a_vret C hlocks hr dX12_copy_28 rfl
      · skip
        have hlt := x_nge (n := 80) h7 hi
        refine a_aload_n C dX12_copy_10 3 rfl ?_
        refine a_iload_n C dX12_copy_11 4 rfl ?_
        refine a_iload C dX12_copy_12 0 rfl ?_
        refine a_iadd C dX12_copy_14 ?_
        refine a_aload_n C dX12_copy_15 1 rfl ?_
        refine a_iload_n C dX12_copy_16 2 rfl ?_
        refine a_iload C dX12_copy_17 0 rfl ?_
        refine a_iadd C dX12_copy_19 ?_
        refine a_ialdN C (k := k0) hk0 (i := a + i) (x_add2 (a := a) (b := i) rfl rfl) (by omega) (by first | decide | omega) dX12_copy_20 ?_
        refine a_top (y := (d k0 (a + i))) (by rw [x_r_ne2 (by omega)]) ?_
        refine a_iastN C (k := k1) hk1 (i := t + i) (x_add2 (a := t) (b := i) rfl rfl) (by omega) (by first | decide | omega) dX12_copy_21 ?_
        refine a_iinc C dX12_copy_22 0 rfl (v := (nI (i + 1))) (x_inc i) (by decide) (lst2 := [(4, .int (nI (i + 1))), (0, .ref (x_b G + k0)), (1, .int (nI a)), (2, .ref (x_b G + k1)), (3, .int (nI t))]) rfl ?_
        refine a_goto C dX12_copy_25 (tgt := 3) (by decide) ?_
        refine a_sub (lst2 := [(4, .int (nI (i + 1))), (0, .ref (x_b G + k0)), (1, .int (nI a)), (2, .ref (x_b G + k1)), (3, .int (nI t))]) [0, 1, 2, 3, 4] rfl ?_
        refine a_to (lst2 := [(4, .int (nI ((i + 1)))), (0, .ref (x_b G + k0)), (1, .int (nI a)), (2, .ref (x_b G + k1)), (3, .int (nI t))]) (st2 := []) (d2 := x_r d k1 (va_cpy (d k0) (d k1) a t ((i + 1)))) rfl rfl (x_p_r2 (va_cpy_s _ _ _ _ _)).symm ?_
        exact ih (i + 1) (by omega) (by omega) 
  refine a_sub (lst2 := [(4, .int 0), (0, .ref (x_b G + k0)), (1, .int (nI a)), (2, .ref (x_b G + k1)), (3, .int (nI t))]) [0, 1, 2, 3, 4] rfl ?_
  refine a_toD (d2 := x_r d k1 (va_cpy (d k0) (d k1) a t 0)) (by rw [va_cpy_0]; exact x_r_id d k1) ?_
  exact L3 (80 + 1) 0 (by omega) (by omega)

set_option maxHeartbeats 1000000 in
set_option maxRecDepth 100000 in
theorem c_M_begin (l : Launch) (G : xG) (d : xd)  : x_M G l yX12_begin wsX12_begin 2 0 0 [.ref (x_b G + 175)] d none (g_bg d) := by
  have iX12 : ∀ w ∈ u_ws RX12 TX12 16, w ∈ wsX12_begin := by decide +kernel
  refine x_start (cc := cX12_begin) (maxL := 1) (ret := none) (own := RX12) (by decide) rfl rfl (Nat.le_of_ble_eq_true rfl) (lst := [(0, .ref (x_b G + 175))]) rfl ?_
  intro p e s m args below meth c C hr hlocks
  refine a_aload_n C dX12_begin_0 0 rfl ?_
  refine a_getR C (k := 175) iX12 x_k175 rfl (j := 0) rfl (by decide) (by decide +kernel) dX12_begin_1 ?_
  refine a_iconst C dX12_begin_4 (v := 0) (by decide) ?_
  refine a_aload_n C dX12_begin_5 0 rfl ?_
  refine a_getR C (k := 175) iX12 x_k175 rfl (j := 1) rfl (by decide) (by decide +kernel) dX12_begin_6 ?_
  refine a_iconst C dX12_begin_9 (v := 0) (by decide) ?_
  refine a_callS C (As := [.ref (x_b G + 176), .int 0, .ref (x_b G + 177), .int 0]) (rest := []) (c_M_copy l G d 176 177 0 0 80 80 x_k176 x_k177 (by decide) (by omega) (by omega) (by decide) (by decide)) (va_cwS 4 C.1.2.2.2.2 gX12_begin_X12_copy rfl rfl rfl (by decide +kernel) ⟨Nat.le_of_ble_eq_true rfl, Nat.le_of_ble_eq_true rfl⟩) rfl rfl (Nat.le_of_ble_eq_true rfl) dX12_begin_10 ⟨Nat.le_of_ble_eq_true rfl, Nat.le_of_ble_eq_true rfl⟩ ?_
  exact a_vret C hlocks hr dX12_begin_13 rfl

set_option maxHeartbeats 1000000 in
set_option maxRecDepth 100000 in
theorem c_M_kept_f (l : Launch) (G : xG) (d : xd) (v : Int32) (ht : ¬ d 175 12 = 0) : x_M G l yX12_kept wsX12_kept 2 0 0 [.ref (x_b G + 175), .int v] d (some (.int 0)) (g_kf d) := by
  have iX12 : ∀ w ∈ u_ws RX12 TX12 16, w ∈ wsX12_kept := by decide +kernel
  refine x_start (cc := cX12_kept) (maxL := 3) (ret := (some .int)) (own := RX12) (by decide) rfl rfl (Nat.le_of_ble_eq_true rfl) (lst := [(0, .ref (x_b G + 175)), (1, .int v)]) rfl ?_
  intro p e s m args below meth c C hr hlocks
  refine a_aload_n C dX12_kept_0 0 rfl ?_
  refine a_getI C (k := 175) iX12 x_k175 rfl (j := 12) rfl (by decide) (by decide +kernel) dX12_kept_1 ?_
  refine a_if_eq C dX12_kept_4 (tgt := 22) (by decide) (fun h => False.elim (ht h)) (fun h4 => ?_)
  refine a_aload_n C dX12_kept_7 0 rfl ?_
  refine a_getR C (k := 175) iX12 x_k175 rfl (j := 1) rfl (by decide) (by decide +kernel) dX12_kept_8 ?_
  refine a_iconst C dX12_kept_11 (v := 0) (by decide) ?_
  refine a_aload_n C dX12_kept_12 0 rfl ?_
  refine a_getR C (k := 175) iX12 x_k175 rfl (j := 0) rfl (by decide) (by decide +kernel) dX12_kept_13 ?_
  refine a_iconst C dX12_kept_16 (v := 0) (by decide) ?_
  refine a_callS C (As := [.ref (x_b G + 177), .int 0, .ref (x_b G + 176), .int 0]) (rest := []) (c_M_copy l G d 177 176 0 0 80 80 x_k177 x_k176 (by decide) (by omega) (by omega) (by decide) (by decide)) (va_cwS 4 C.1.2.2.2.2 gX12_kept_X12_copy rfl rfl rfl (by decide +kernel) ⟨Nat.le_of_ble_eq_true rfl, Nat.le_of_ble_eq_true rfl⟩) rfl rfl (Nat.le_of_ble_eq_true rfl) dX12_kept_17 ⟨Nat.le_of_ble_eq_true rfl, Nat.le_of_ble_eq_true rfl⟩ ?_
  refine a_iconst C dX12_kept_20 (v := 0) (by decide) ?_
  exact a_iret C hlocks hr dX12_kept_21 rfl rfl

set_option maxHeartbeats 1000000 in
set_option maxRecDepth 100000 in
theorem c_M_kept_n (l : Launch) (G : xG) (d : xd) (v : Int32) (c9 : Nat) (ht : d 175 12 = 0) (hc : d 175 3 = nI c9) (h8 : c9 < 8) : x_M G l yX12_kept wsX12_kept 2 0 0 [.ref (x_b G + 175), .int v] d (some (.int v)) (g_kn d c9) := by
  have iX12 : ∀ w ∈ u_ws RX12 TX12 16, w ∈ wsX12_kept := by decide +kernel
  refine x_start (cc := cX12_kept) (maxL := 3) (ret := (some .int)) (own := RX12) (by decide) rfl rfl (Nat.le_of_ble_eq_true rfl) (lst := [(0, .ref (x_b G + 175)), (1, .int v)]) rfl ?_
  intro p e s m args below meth c C hr hlocks
  refine a_aload_n C dX12_kept_0 0 rfl ?_
  refine a_getI C (k := 175) iX12 x_k175 rfl (j := 12) rfl (by decide) (by decide +kernel) dX12_kept_1 ?_
  refine a_if_eq C dX12_kept_4 (tgt := 22) (by decide) (fun h4 => ?_) (fun h => False.elim (absurd ht h))
  refine a_aload_n C dX12_kept_22 0 rfl ?_
  refine a_getI C (k := 175) iX12 x_k175 rfl (j := 3) rfl (by decide) (by decide +kernel) dX12_kept_23 ?_
  refine a_top (y := (nI c9)) hc ?_
  refine a_bipush C dX12_kept_26 (v := 8) (by decide) ?_
  refine a_icmp_ne C dX12_kept_28 (tgt := 71) (by decide) (fun h28 => ?_) (fun h => False.elim (absurd h (fun z => by have := (nI_eq (b := 8) (by omega) (by omega)).mp z; omega)))
  refine a_aload_n C dX12_kept_71 0 rfl ?_
  refine a_getR C (k := 175) iX12 x_k175 rfl (j := 1) rfl (by decide) (by decide +kernel) dX12_kept_72 ?_
  refine a_iconst C dX12_kept_75 (v := 0) (by decide) ?_
  refine a_aload_n C dX12_kept_76 0 rfl ?_
  refine a_getR C (k := 175) iX12 x_k175 rfl (j := 2) rfl (by decide) (by decide +kernel) dX12_kept_77 ?_
  refine a_aload_n C dX12_kept_80 0 rfl ?_
  refine a_getI C (k := 175) iX12 x_k175 rfl (j := 3) rfl (by decide) (by decide +kernel) dX12_kept_81 ?_
  refine a_top (y := (nI c9)) hc ?_
  refine a_bipush C dX12_kept_84 (v := 80) (by decide) ?_
  refine a_imul C dX12_kept_86 ?_
  refine a_top (y := (nI (c9 * 80))) (pk_mul c9 80) ?_
  refine a_callS C (As := [.ref (x_b G + 177), .int 0, .ref (x_b G + 178), .int (nI (c9 * 80))]) (rest := []) (c_M_copy l G d 177 178 0 (c9 * 80) 80 640 x_k177 x_k178 (by decide) (by omega) (by omega) (by decide) (by decide)) (va_cwS 4 C.1.2.2.2.2 gX12_kept_X12_copy rfl rfl rfl (by decide +kernel) ⟨Nat.le_of_ble_eq_true rfl, Nat.le_of_ble_eq_true rfl⟩) rfl rfl (Nat.le_of_ble_eq_true rfl) dX12_kept_87 ⟨Nat.le_of_ble_eq_true rfl, Nat.le_of_ble_eq_true rfl⟩ ?_
  refine a_aload_n C dX12_kept_90 0 rfl ?_
  refine a_dup C dX12_kept_91 rfl ?_
  refine a_getI C (k := 175) iX12 x_k175 rfl (j := 3) rfl (by decide) (by decide +kernel) dX12_kept_92 ?_
  refine a_top (y := (d 175 3)) (by rw [x_r_ne2 (by omega)]) ?_
  refine a_top (y := (nI c9)) hc ?_
  refine a_iconst C dX12_kept_95 (v := 1) (by decide) ?_
  refine a_iadd C dX12_kept_96 ?_
  refine a_top (y := (nI (c9 + 1))) (nI_1 c9) ?_
  refine a_putI C (k := 175) iX12 tyX12_ok nmX12 x_k175 rfl (j := 3) rfl (by decide) (by decide +kernel) rfl (ty := .int) (by decide +kernel) rfl rfl dX12_kept_97 ?_
  refine a_iload_n C dX12_kept_100 1 rfl ?_
  exact a_iret C hlocks hr dX12_kept_101 rfl rfl

set_option maxHeartbeats 1000000 in
set_option maxRecDepth 100000 in
theorem c_M_kept_s (l : Launch) (G : xG) (d : xd) (v : Int32) (ht : d 175 12 = 0) (hc : d 175 3 = 8) : x_M G l yX12_kept wsX12_kept 2 0 0 [.ref (x_b G + 175), .int v] d (some (.int v)) (g_ks d) := by
  have iX12 : ∀ w ∈ u_ws RX12 TX12 16, w ∈ wsX12_kept := by decide +kernel
  refine x_start (cc := cX12_kept) (maxL := 3) (ret := (some .int)) (own := RX12) (by decide) rfl rfl (Nat.le_of_ble_eq_true rfl) (lst := [(0, .ref (x_b G + 175)), (1, .int v)]) rfl ?_
  intro p e s m args below meth c C hr hlocks
  refine a_aload_n C dX12_kept_0 0 rfl ?_
  refine a_getI C (k := 175) iX12 x_k175 rfl (j := 12) rfl (by decide) (by decide +kernel) dX12_kept_1 ?_
  refine a_if_eq C dX12_kept_4 (tgt := 22) (by decide) (fun h4 => ?_) (fun h => False.elim (absurd ht h))
  refine a_aload_n C dX12_kept_22 0 rfl ?_
  refine a_getI C (k := 175) iX12 x_k175 rfl (j := 3) rfl (by decide) (by decide +kernel) dX12_kept_23 ?_
  refine a_bipush C dX12_kept_26 (v := 8) (by decide) ?_
  refine a_icmp_ne C dX12_kept_28 (tgt := 71) (by decide) (fun h => False.elim (h hc)) (fun h28 => ?_)
  refine a_iconst C dX12_kept_31 (v := 0) (by decide) ?_
  refine a_istore_n C dX12_kept_32 (by decide) (lst2 := [(2, .int 0), (0, .ref (x_b G + 175)), (1, .int v)]) rfl ?_
  have L33 : ∀ (j i : Nat), i ≤ 560 → 560 < i + j → Ab G p l e (x_rm 2 0 0) s m args below meth c 3 0 0 (MQ below (x_Q G (some (.int v)) (g_ks d)) args s 0 0 (x_A G)) 33 [(2, .int (nI i)), (0, .ref (x_b G + 175)), (1, .int v)] [] (x_r d 178 (f_fill (fun j => d 178 (j + 80)) (d 178) i)) := by
    intro j
    induction j with
    | zero => intro i h1 h2; exact absurd h2 (by omega)
    | succ j ih =>
      intro i hi hj 
      refine a_iload_n C dX12_kept_33 0 rfl ?_
      refine a_sipush C dX12_kept_34 (v := 560) (by decide) ?_
      refine a_icmp_ge C dX12_kept_37 (tgt := 61) (by decide) (fun h37 => ?_) (fun h37 => ?_)
      · skip
        have e := x_ge (n := 560) h37 hi (by omega)
        have e9 := e.symm
        subst e9
        refine a_aload_n C dX12_kept_61 1 rfl ?_
        refine a_dup C dX12_kept_62 rfl ?_
        refine a_getI C (k := 175) iX12 x_k175 rfl (j := 3) rfl (by decide) (by decide +kernel) dX12_kept_63 ?_
        refine a_top (y := (d 175 3)) (by rw [x_r_ne2 (by omega)]) ?_
        refine a_top (y := 8) hc ?_
        refine a_iconst C dX12_kept_66 (v := 1) (by decide) ?_
        refine a_isub C dX12_kept_67 ?_
        refine a_top (y := 7) rfl ?_
        refine a_putI C (k := 175) iX12 tyX12_ok nmX12 x_k175 rfl (j := 3) rfl (by decide) (by decide +kernel) rfl (ty := .int) (by decide +kernel) rfl rfl dX12_kept_68 ?_
        refine a_aload_n C dX12_kept_71 1 rfl ?_
        refine a_getR C (k := 175) iX12 x_k175 rfl (j := 1) rfl (by decide) (by decide +kernel) dX12_kept_72 ?_
        refine a_iconst C dX12_kept_75 (v := 0) (by decide) ?_
        refine a_aload_n C dX12_kept_76 1 rfl ?_
        refine a_getR C (k := 175) iX12 x_k175 rfl (j := 2) rfl (by decide) (by decide +kernel) dX12_kept_77 ?_
        refine a_aload_n C dX12_kept_80 1 rfl ?_
        refine a_getI C (k := 175) iX12 x_k175 rfl (j := 3) rfl (by decide) (by decide +kernel) dX12_kept_81 ?_
        refine a_top (y := 7) (by rw [x_p_at]) ?_
        refine a_top (y := 7) rfl ?_
        refine a_bipush C dX12_kept_84 (v := 80) (by decide) ?_
        refine a_imul C dX12_kept_86 ?_
        refine a_top (y := (nI 560)) rfl ?_
        refine a_callS C (As := [.ref (x_b G + 177), .int 0, .ref (x_b G + 178), .int (nI 560)]) (rest := []) (c_M_copy l G (x_p (x_r d 178 (f_fill (fun j => d 178 (j + 80)) (d 178) 560)) 175 3 7) 177 178 0 560 80 640 x_k177 x_k178 (by decide) (by omega) (by omega) (by decide) (by decide)) (va_cwS 4 C.1.2.2.2.2 gX12_kept_X12_copy rfl rfl rfl (by decide +kernel) ⟨Nat.le_of_ble_eq_true rfl, Nat.le_of_ble_eq_true rfl⟩) rfl rfl (Nat.le_of_ble_eq_true rfl) dX12_kept_87 ⟨Nat.le_of_ble_eq_true rfl, Nat.le_of_ble_eq_true rfl⟩ ?_
        refine a_aload_n C dX12_kept_90 1 rfl ?_
        refine a_dup C dX12_kept_91 rfl ?_
        refine a_getI C (k := 175) iX12 x_k175 rfl (j := 3) rfl (by decide) (by decide +kernel) dX12_kept_92 ?_
        refine a_top (y := 7) (by rw [x_r_ne2 (by omega), x_p_at]) ?_
        refine a_top (y := 7) rfl ?_
        refine a_iconst C dX12_kept_95 (v := 1) (by decide) ?_
        refine a_iadd C dX12_kept_96 ?_
        refine a_top (y := 8) rfl ?_
        refine a_putI C (k := 175) iX12 tyX12_ok nmX12 x_k175 rfl (j := 3) rfl (by decide) (by decide +kernel) rfl (ty := .int) (by decide +kernel) rfl rfl dX12_kept_97 ?_
        refine a_iload_n C dX12_kept_100 2 rfl ?_
        exact a_iret C hlocks hr dX12_kept_101 rfl (by unfold g_ks g_sh; rw [x_p_ne (by decide), x_p_ne (by decide), x_r_ne2 (by decide), x_r_same])
      · skip
        have hlt := x_nge (n := 560) h37 hi
        refine a_aload_n C dX12_kept_40 1 rfl ?_
        refine a_getR C (k := 175) iX12 x_k175 rfl (j := 2) rfl (by decide) (by decide +kernel) dX12_kept_41 ?_
        refine a_iload_n C dX12_kept_44 0 rfl ?_
        refine a_aload_n C dX12_kept_45 1 rfl ?_
        refine a_getR C (k := 175) iX12 x_k175 rfl (j := 2) rfl (by decide) (by decide +kernel) dX12_kept_46 ?_
        refine a_iload_n C dX12_kept_49 0 rfl ?_
        refine a_bipush C dX12_kept_50 (v := 80) (by decide) ?_
        refine a_iadd C dX12_kept_52 ?_
        refine a_ialdN C (k := 178) x_k178 (i := i + 80) (x_add2 (a := i) (b := 80) rfl rfl) (by omega) (by first | decide | omega) dX12_kept_53 ?_
        refine a_top (y := (d 178 (i + 80))) (by rw [x_r_same, f_fill, if_neg (by omega)]) ?_
        refine a_iastN C (k := 178) x_k178 (i := i) rfl (by omega) (by first | decide | omega) dX12_kept_54 ?_
        refine a_iinc C dX12_kept_55 0 rfl (v := (nI (i + 1))) (x_inc i) (by decide) (lst2 := [(2, .int (nI (i + 1))), (0, .ref (x_b G + 175)), (1, .int v)]) rfl ?_
        refine a_goto C dX12_kept_58 (tgt := 33) (by decide) ?_
        refine a_sub (lst2 := [(2, .int (nI (i + 1))), (0, .ref (x_b G + 175)), (1, .int v)]) [0, 1, 2] rfl ?_
        refine a_to (lst2 := [(2, .int (nI ((i + 1)))), (0, .ref (x_b G + 175)), (1, .int v)]) (st2 := []) (d2 := x_r d 178 (f_fill (fun j => d 178 (j + 80)) (d 178) ((i + 1)))) rfl rfl (x_p_r2 (f_fill_s _ _ i)).symm ?_
        exact ih (i + 1) (by omega) (by omega) 
  refine a_sub (lst2 := [(2, .int 0), (0, .ref (x_b G + 175)), (1, .int v)]) [0, 1, 2] rfl ?_
  refine a_toD (d2 := x_r d 178 (f_fill (fun j => d 178 (j + 80)) (d 178) 0)) (by rw [f_fill_0]; exact x_r_id d 178) ?_
  exact L33 (560 + 1) 0 (by omega) (by omega)

theorem c_M_kept (l : Launch) (G : xG) (d : xd) (v : Int32) (c9 : Nat) (ht : d 175 12 = 0) (hc : d 175 3 = nI c9) (h8 : c9 ≤ 8) : x_M G l yX12_kept wsX12_kept 2 0 0 [.ref (x_b G + 175), .int v] d (some (.int v)) (g_kp d c9) := by
  unfold g_kp
  by_cases h : c9 = 8
  · subst h
    rw [if_pos rfl]
    exact c_M_kept_s l G d v ht hc
  · rw [if_neg h]
    exact c_M_kept_n l G d v c9 ht hc (by omega)
theorem x_le_pred {x : Int32} {n : Nat} (h : n < 1000) : x ≤ nI n - 1 ↔ x < nI n := by
  have e1 : (nI n).toInt = n := nI_toInt (by omega)
  have e2 : (nI n - 1).toInt = (n : Int) - 1 := by
    have := pk_sub_toInt (a := n) (b := 1) (by omega) (by omega)
    exact this
  rw [Int32.le_iff_toInt_le, Int32.lt_iff_toInt_lt, e1, e2]
  omega
theorem x_bi_iff {a b : Prop} [Decidable a] [Decidable b] (h : a ↔ b) : x_bi a = x_bi b := by
  unfold x_bi
  by_cases q : a
  · rw [if_pos q, if_pos (h.mp q)]
  · rw [if_neg q, if_neg (fun z => q (h.mpr z))]

set_option maxHeartbeats 1000000 in
set_option maxRecDepth 100000 in
theorem c_M_isLamp (l : Launch) (G : xG) (d : xd) (x : Int32) (n : Nat) (hn : d 176 0 = nI n) (h8 : n ≤ 8) : x_M G l yX12_isLamp wsX12_isLamp 2 0 0 [.ref (x_b G + 175), .int x] d (some (.int (x_bi (0 ≤ x ∧ x < nI n)))) d := by
  have iX12 : ∀ w ∈ u_ws RX12 TX12 16, w ∈ wsX12_isLamp := by decide +kernel
  refine x_start (cc := cX12_isLamp) (maxL := 2) (ret := (some .boolean)) (own := RX12) (by decide) rfl rfl (Nat.le_of_ble_eq_true rfl) (lst := [(0, .ref (x_b G + 175)), (1, .int x)]) rfl ?_
  intro p e s m args below meth c C hr hlocks
  refine a_iload_n C dX12_isLamp_0 1 rfl ?_
  refine a_iconst C dX12_isLamp_1 (v := 0) (by decide) ?_
  refine a_aload_n C dX12_isLamp_2 0 rfl ?_
  refine a_getR C (k := 175) iX12 x_k175 rfl (j := 0) rfl (by decide) (by decide +kernel) dX12_isLamp_3 ?_
  refine a_iconst C dX12_isLamp_6 (v := 0) (by decide) ?_
  refine a_ialdN C (k := 176) x_k176 (i := 0) rfl (by decide) (by first | decide | omega) dX12_isLamp_7 ?_
  refine a_top (y := (nI n)) hn ?_
  refine a_iconst C dX12_isLamp_8 (v := 1) (by decide) ?_
  refine a_isub C dX12_isLamp_9 ?_
  refine a_callS C (As := [.int x, .int 0, .int ((nI n) - 1)]) (rest := []) (c_M_in l G d x 0 (nI n - 1)) (va_cwS 3 C.1.2.2.2.2 gX12_isLamp_X12_in rfl rfl rfl (by decide +kernel) ⟨Nat.le_of_ble_eq_true rfl, Nat.le_of_ble_eq_true rfl⟩) rfl rfl (Nat.le_of_ble_eq_true rfl) dX12_isLamp_10 ⟨Nat.le_of_ble_eq_true rfl, Nat.le_of_ble_eq_true rfl⟩ ?_
  refine a_top (y := (x_bi (0 ≤ x ∧ x < nI n))) (x_bi_iff (by rw [x_le_pred (by omega)])) ?_
  exact a_zret C hlocks hr (x_nz _) dX12_isLamp_13 rfl rfl

set_option maxHeartbeats 1000000 in
set_option maxRecDepth 100000 in
theorem c_M_isMoth (l : Launch) (G : xG) (d : xd) (x : Int32) (q : Nat) (hq : d 176 1 = nI q) (h6 : q ≤ 6) : x_M G l yX12_isMoth wsX12_isMoth 2 0 0 [.ref (x_b G + 175), .int x] d (some (.int (x_bi (0 ≤ x ∧ x < nI q)))) d := by
  have iX12 : ∀ w ∈ u_ws RX12 TX12 16, w ∈ wsX12_isMoth := by decide +kernel
  refine x_start (cc := cX12_isMoth) (maxL := 2) (ret := (some .boolean)) (own := RX12) (by decide) rfl rfl (Nat.le_of_ble_eq_true rfl) (lst := [(0, .ref (x_b G + 175)), (1, .int x)]) rfl ?_
  intro p e s m args below meth c C hr hlocks
  refine a_iload_n C dX12_isMoth_0 1 rfl ?_
  refine a_iconst C dX12_isMoth_1 (v := 0) (by decide) ?_
  refine a_aload_n C dX12_isMoth_2 0 rfl ?_
  refine a_getR C (k := 175) iX12 x_k175 rfl (j := 0) rfl (by decide) (by decide +kernel) dX12_isMoth_3 ?_
  refine a_iconst C dX12_isMoth_6 (v := 1) (by decide) ?_
  refine a_ialdN C (k := 176) x_k176 (i := 1) rfl (by decide) (by first | decide | omega) dX12_isMoth_7 ?_
  refine a_top (y := (nI q)) hq ?_
  refine a_iconst C dX12_isMoth_8 (v := 1) (by decide) ?_
  refine a_isub C dX12_isMoth_9 ?_
  refine a_callS C (As := [.int x, .int 0, .int ((nI q) - 1)]) (rest := []) (c_M_in l G d x 0 (nI q - 1)) (va_cwS 3 C.1.2.2.2.2 gX12_isMoth_X12_in rfl rfl rfl (by decide +kernel) ⟨Nat.le_of_ble_eq_true rfl, Nat.le_of_ble_eq_true rfl⟩) rfl rfl (Nat.le_of_ble_eq_true rfl) dX12_isMoth_10 ⟨Nat.le_of_ble_eq_true rfl, Nat.le_of_ble_eq_true rfl⟩ ?_
  refine a_top (y := (x_bi (0 ≤ x ∧ x < nI q))) (x_bi_iff (by rw [x_le_pred (by omega)])) ?_
  exact a_zret C hlocks hr (x_nz _) dX12_isMoth_13 rfl rfl

theorem x_r_r {d : xd} {k : Nat} {f g : Nat → Int32} : x_r (x_r d k f) k g = x_r d k g := by
  funext q
  by_cases h : q = k
  · subst h; simp [x_r]
  · simp [x_r, h]
abbrev g_ok (d : xd) (f : Nat → Int32) : xd := x_p (x_r d 176 f) 175 12 0
theorem x_bi_ne {c : Prop} [Decidable c] (h : c) : ¬ x_bi c = 0 := by rw [x_bi_t h]; decide
theorem c_M_in_t (l : Launch) (G : xG) (d : xd) (x lo hi : Int32) (h : lo ≤ x ∧ x ≤ hi) : x_M G l yX12_in wsX12_in 1 0 0 [.int x, .int lo, .int hi] d (some (.int 1)) d := by
  have q := c_M_in l G d x lo hi
  rwa [x_bi_t h] at q
theorem c_M_in_f (l : Launch) (G : xG) (d : xd) (x lo hi : Int32) (h : ¬ (lo ≤ x ∧ x ≤ hi)) : x_M G l yX12_in wsX12_in 1 0 0 [.int x, .int lo, .int hi] d (some (.int 0)) d := by
  have q := c_M_in l G d x lo hi
  rwa [x_bi_f h] at q
theorem x_in {i n : Nat} (h : i < n) (hn : n < 1000) : 0 ≤ nI i ∧ nI i < nI n := ⟨nI_pos' (by omega), (nI_ltI (by omega) (by omega)).mpr h⟩
theorem c_M_isLamp_t (l : Launch) (G : xG) (d : xd) (i n : Nat) (hn : d 176 0 = nI n) (h8 : n ≤ 8) (hi : i < n) : x_M G l yX12_isLamp wsX12_isLamp 2 0 0 [.ref (x_b G + 175), .int (nI i)] d (some (.int 1)) d := by
  have q := c_M_isLamp l G d (nI i) n hn h8
  rwa [x_bi_t (x_in hi (by omega))] at q
theorem c_M_isLamp_f (l : Launch) (G : xG) (d : xd) (x : Int32) (n : Nat) (hn : d 176 0 = nI n) (h8 : n ≤ 8) (h : ¬ (0 ≤ x ∧ x < nI n)) : x_M G l yX12_isLamp wsX12_isLamp 2 0 0 [.ref (x_b G + 175), .int x] d (some (.int 0)) d := by
  have q := c_M_isLamp l G d x n hn h8
  rwa [x_bi_f h] at q
theorem c_M_isMoth_t (l : Launch) (G : xG) (d : xd) (i q : Nat) (hq : d 176 1 = nI q) (h6 : q ≤ 6) (hi : i < q) : x_M G l yX12_isMoth wsX12_isMoth 2 0 0 [.ref (x_b G + 175), .int (nI i)] d (some (.int 1)) d := by
  have z := c_M_isMoth l G d (nI i) q hq h6
  rwa [x_bi_t (x_in hi (by omega))] at z
theorem c_M_isMoth_f (l : Launch) (G : xG) (d : xd) (x : Int32) (q : Nat) (hq : d 176 1 = nI q) (h6 : q ≤ 6) (h : ¬ (0 ≤ x ∧ x < nI q)) : x_M G l yX12_isMoth wsX12_isMoth 2 0 0 [.ref (x_b G + 175), .int x] d (some (.int 0)) d := by
  have z := c_M_isMoth l G d x q hq h6
  rwa [x_bi_f h] at z

