-- STAND-INS
theorem n : True := trivial
theorem i : True := trivial
theorem k : True := trivial
theorem q : True := trivial
theorem u : True := trivial
theorem v : True := trivial
theorem w : True := trivial
theorem j : True := trivial
theorem o : True := trivial
theorem a : True := trivial
theorem b : True := trivial
theorem y : True := trivial
theorem z : True := trivial
theorem r : True := trivial
theorem t : True := trivial
theorem f : True := trivial
theorem g : True := trivial
theorem o2 : True := trivial
theorem a2 : True := trivial
theorem hlt : True := trivial
theorem hltk : True := trivial
theorem hlt3 : True := trivial
theorem hlt4 : True := trivial
theorem hn : True := trivial
theorem hq : True := trivial
theorem hm : True := trivial
theorem hi : True := trivial
theorem hi2 : True := trivial
theorem hi3 : True := trivial
theorem hk : True := trivial
theorem hj : True := trivial
theorem hb : True := trivial
theorem hs : True := trivial
theorem hw : True := trivial
theorem hx : True := trivial
theorem hz : True := trivial
theorem hv : True := trivial
theorem hr : True := trivial
theorem hc : True := trivial
theorem hu : True := trivial
theorem hp : True := trivial
theorem hl : True := trivial
theorem hh : True := trivial
theorem e : True := trivial
theorem e9 : True := trivial
theorem sh : True := trivial
theorem a0 : True := trivial
theorem c9 : True := trivial
theorem k9 : True := trivial
theorem m9 : True := trivial
theorem mm : True := trivial
theorem ha : True := trivial
theorem ho : True := trivial
theorem hS : True := trivial
theorem ha0 : True := trivial
theorem hs9 : True := trivial
theorem hk0 : True := trivial
theorem hk1 : True := trivial
theorem hk9 : True := trivial
theorem hap : True := trivial
theorem hoo : True := trivial
theorem qh : True := trivial
theorem ex : True := trivial
theorem ih : True := trivial
theorem ihk : True := trivial
theorem ih1 : True := trivial
theorem ih2 : True := trivial
theorem ih3 : True := trivial
theorem ih4 : True := trivial
theorem ihj : True := trivial
theorem st : True := trivial
theorem lst : True := trivial
theorem args0 : True := trivial
theorem hcn : True := trivial
theorem hcir : True := trivial
theorem q8 : True := trivial
theorem z8 : True := trivial
theorem h0 : True := trivial
theorem h1 : True := trivial
theorem h2 : True := trivial
theorem h3 : True := trivial
theorem h4 : True := trivial
theorem h5 : True := trivial
theorem h7 : True := trivial
theorem h10 : True := trivial
theorem h11 : True := trivial
theorem h12 : True := trivial
theorem h13 : True := trivial
theorem h14 : True := trivial
theorem h15 : True := trivial
theorem h16 : True := trivial
theorem h17 : True := trivial
theorem h18 : True := trivial
theorem h19 : True := trivial
theorem h20 : True := trivial
theorem h21 : True := trivial
theorem h22 : True := trivial
theorem h23 : True := trivial
theorem h24 : True := trivial
theorem h25 : True := trivial
theorem h26 : True := trivial
theorem h27 : True := trivial
theorem h28 : True := trivial
theorem h29 : True := trivial
theorem h30 : True := trivial
theorem h31 : True := trivial
theorem h32 : True := trivial
theorem h33 : True := trivial
theorem h34 : True := trivial
theorem h35 : True := trivial
theorem h36 : True := trivial
theorem h37 : True := trivial
theorem h38 : True := trivial
theorem h39 : True := trivial
theorem h40 : True := trivial
theorem h41 : True := trivial
theorem h42 : True := trivial
theorem h43 : True := trivial
theorem h44 : True := trivial
theorem h45 : True := trivial
theorem h46 : True := trivial
theorem h47 : True := trivial
theorem h48 : True := trivial
theorem h49 : True := trivial
theorem h50 : True := trivial
theorem h51 : True := trivial
theorem h52 : True := trivial
theorem h53 : True := trivial
theorem h54 : True := trivial
theorem h55 : True := trivial
theorem h56 : True := trivial
theorem h57 : True := trivial
theorem h58 : True := trivial
theorem h59 : True := trivial
theorem h60 : True := trivial
theorem h61 : True := trivial
theorem h62 : True := trivial
theorem h63 : True := trivial
theorem h64 : True := trivial
theorem h65 : True := trivial
theorem h66 : True := trivial
theorem h67 : True := trivial
theorem h68 : True := trivial
theorem h69 : True := trivial
theorem h70 : True := trivial
theorem h71 : True := trivial
theorem h72 : True := trivial
theorem h73 : True := trivial
theorem h74 : True := trivial
theorem h75 : True := trivial
theorem h76 : True := trivial
theorem h77 : True := trivial
theorem h78 : True := trivial
theorem h79 : True := trivial
theorem h80 : True := trivial
theorem h81 : True := trivial
theorem h82 : True := trivial
theorem h83 : True := trivial
theorem h84 : True := trivial
theorem h85 : True := trivial
theorem h86 : True := trivial
theorem h87 : True := trivial
theorem h88 : True := trivial
theorem h89 : True := trivial
theorem h90 : True := trivial
theorem h91 : True := trivial
theorem h92 : True := trivial
theorem h93 : True := trivial
theorem h94 : True := trivial
theorem h95 : True := trivial
theorem h96 : True := trivial
theorem h97 : True := trivial
theorem h98 : True := trivial
theorem h99 : True := trivial
theorem h100 : True := trivial
theorem h101 : True := trivial
theorem h102 : True := trivial
theorem h103 : True := trivial
theorem h104 : True := trivial
theorem h105 : True := trivial
theorem h106 : True := trivial
theorem h107 : True := trivial
theorem h108 : True := trivial
theorem h109 : True := trivial
theorem h110 : True := trivial
theorem h111 : True := trivial
theorem h112 : True := trivial
theorem h113 : True := trivial
theorem h114 : True := trivial
theorem h115 : True := trivial
theorem h116 : True := trivial
theorem h117 : True := trivial
theorem h118 : True := trivial
theorem h119 : True := trivial
theorem h120 : True := trivial
theorem h121 : True := trivial
theorem h122 : True := trivial
theorem h123 : True := trivial
theorem h124 : True := trivial
theorem h125 : True := trivial
theorem h126 : True := trivial
theorem h127 : True := trivial
theorem h128 : True := trivial
theorem h129 : True := trivial
theorem h130 : True := trivial
theorem h131 : True := trivial
theorem h132 : True := trivial
theorem h133 : True := trivial
theorem h134 : True := trivial
theorem h135 : True := trivial
theorem h136 : True := trivial
theorem h137 : True := trivial
theorem h138 : True := trivial
theorem h139 : True := trivial
theorem h140 : True := trivial
theorem h141 : True := trivial
theorem h142 : True := trivial
theorem h143 : True := trivial
theorem h144 : True := trivial
theorem h145 : True := trivial
theorem h146 : True := trivial
theorem h147 : True := trivial
theorem h148 : True := trivial
theorem h149 : True := trivial
theorem h150 : True := trivial
theorem h151 : True := trivial
theorem h152 : True := trivial
theorem h153 : True := trivial
theorem h154 : True := trivial
theorem h155 : True := trivial
theorem h156 : True := trivial
theorem h157 : True := trivial
theorem h158 : True := trivial
theorem h159 : True := trivial
theorem h160 : True := trivial
theorem h161 : True := trivial
theorem h162 : True := trivial
theorem h163 : True := trivial
theorem h164 : True := trivial
theorem h165 : True := trivial
theorem h166 : True := trivial
theorem h167 : True := trivial
theorem h168 : True := trivial
theorem h169 : True := trivial
theorem h170 : True := trivial
theorem h171 : True := trivial
theorem h172 : True := trivial
theorem h173 : True := trivial
theorem h174 : True := trivial
theorem h175 : True := trivial
theorem h176 : True := trivial
theorem h177 : True := trivial
theorem h178 : True := trivial
theorem h179 : True := trivial
theorem h180 : True := trivial
theorem h181 : True := trivial
theorem h182 : True := trivial
theorem h183 : True := trivial
theorem h184 : True := trivial
theorem h185 : True := trivial
theorem h186 : True := trivial
theorem h187 : True := trivial
theorem h188 : True := trivial
theorem h189 : True := trivial
theorem h190 : True := trivial
theorem h191 : True := trivial
theorem h192 : True := trivial
theorem h193 : True := trivial
theorem h194 : True := trivial
theorem h195 : True := trivial
theorem h196 : True := trivial
theorem h197 : True := trivial
theorem h198 : True := trivial
theorem h199 : True := trivial
theorem L0 : True := trivial
theorem L1 : True := trivial
theorem L2 : True := trivial
theorem L3 : True := trivial
theorem L4 : True := trivial
theorem L5 : True := trivial
theorem L6 : True := trivial
theorem L7 : True := trivial
theorem L8 : True := trivial
theorem L9 : True := trivial
theorem L10 : True := trivial
theorem L11 : True := trivial
theorem L12 : True := trivial
theorem L13 : True := trivial
theorem L14 : True := trivial
theorem L15 : True := trivial
theorem L16 : True := trivial
theorem L17 : True := trivial
theorem L18 : True := trivial
theorem L19 : True := trivial
theorem L20 : True := trivial
theorem L21 : True := trivial
theorem L22 : True := trivial
theorem L23 : True := trivial
theorem L24 : True := trivial
theorem L25 : True := trivial
theorem L26 : True := trivial
theorem L27 : True := trivial
theorem L28 : True := trivial
theorem L29 : True := trivial
theorem L30 : True := trivial
theorem L31 : True := trivial
theorem L32 : True := trivial
theorem L33 : True := trivial
theorem L34 : True := trivial
theorem L35 : True := trivial
theorem L36 : True := trivial
theorem L37 : True := trivial
theorem L38 : True := trivial
theorem L39 : True := trivial
theorem L40 : True := trivial
theorem L41 : True := trivial
theorem L42 : True := trivial
theorem L43 : True := trivial
theorem L44 : True := trivial
theorem L45 : True := trivial
theorem L46 : True := trivial
theorem L47 : True := trivial
theorem L48 : True := trivial
theorem L49 : True := trivial
theorem L50 : True := trivial
theorem L51 : True := trivial
theorem L52 : True := trivial
theorem L53 : True := trivial
theorem L54 : True := trivial
theorem L55 : True := trivial
theorem L56 : True := trivial
theorem L57 : True := trivial
theorem L58 : True := trivial
theorem L59 : True := trivial
theorem L60 : True := trivial
theorem L61 : True := trivial
theorem L62 : True := trivial
theorem L63 : True := trivial
theorem L64 : True := trivial
theorem L65 : True := trivial
theorem L66 : True := trivial
theorem L67 : True := trivial
theorem L68 : True := trivial
theorem L69 : True := trivial
theorem L70 : True := trivial
theorem L71 : True := trivial
theorem L72 : True := trivial
theorem L73 : True := trivial
theorem L74 : True := trivial
theorem L75 : True := trivial
theorem L76 : True := trivial
theorem L77 : True := trivial
theorem L78 : True := trivial
theorem L79 : True := trivial
theorem L80 : True := trivial
theorem L81 : True := trivial
theorem L82 : True := trivial
theorem L83 : True := trivial
theorem L84 : True := trivial
theorem L85 : True := trivial
theorem L86 : True := trivial
theorem L87 : True := trivial
theorem L88 : True := trivial
theorem L89 : True := trivial
theorem L90 : True := trivial
theorem L91 : True := trivial
theorem L92 : True := trivial
theorem L93 : True := trivial
theorem L94 : True := trivial
theorem L95 : True := trivial
theorem L96 : True := trivial
theorem L97 : True := trivial
theorem L98 : True := trivial
theorem L99 : True := trivial
theorem L100 : True := trivial
theorem L101 : True := trivial
theorem L102 : True := trivial
theorem L103 : True := trivial
theorem L104 : True := trivial
theorem L105 : True := trivial
theorem L106 : True := trivial
theorem L107 : True := trivial
theorem L108 : True := trivial
theorem L109 : True := trivial
theorem L110 : True := trivial
theorem L111 : True := trivial
theorem L112 : True := trivial
theorem L113 : True := trivial
theorem L114 : True := trivial
theorem L115 : True := trivial
theorem L116 : True := trivial
theorem L117 : True := trivial
theorem L118 : True := trivial
theorem L119 : True := trivial
theorem L120 : True := trivial
theorem L121 : True := trivial
theorem L122 : True := trivial
theorem L123 : True := trivial
theorem L124 : True := trivial
theorem L125 : True := trivial
theorem L126 : True := trivial
theorem L127 : True := trivial
theorem L128 : True := trivial
theorem L129 : True := trivial
theorem L130 : True := trivial
theorem L131 : True := trivial
theorem L132 : True := trivial
theorem L133 : True := trivial
theorem L134 : True := trivial
theorem L135 : True := trivial
theorem L136 : True := trivial
theorem L137 : True := trivial
theorem L138 : True := trivial
theorem L139 : True := trivial
theorem L140 : True := trivial
theorem L141 : True := trivial
theorem L142 : True := trivial
theorem L143 : True := trivial
theorem L144 : True := trivial
theorem L145 : True := trivial
theorem L146 : True := trivial
theorem L147 : True := trivial
theorem L148 : True := trivial
theorem L149 : True := trivial
theorem L150 : True := trivial
theorem L151 : True := trivial
theorem L152 : True := trivial
theorem L153 : True := trivial
theorem L154 : True := trivial
theorem L155 : True := trivial
theorem L156 : True := trivial
theorem L157 : True := trivial
theorem L158 : True := trivial
theorem L159 : True := trivial
theorem L160 : True := trivial
theorem L161 : True := trivial
theorem L162 : True := trivial
theorem L163 : True := trivial
theorem L164 : True := trivial
theorem L165 : True := trivial
theorem L166 : True := trivial
theorem L167 : True := trivial
theorem L168 : True := trivial
theorem L169 : True := trivial
theorem L170 : True := trivial
theorem L171 : True := trivial
theorem L172 : True := trivial
theorem L173 : True := trivial
theorem L174 : True := trivial
theorem L175 : True := trivial
theorem L176 : True := trivial
theorem L177 : True := trivial
theorem L178 : True := trivial
theorem L179 : True := trivial
theorem L180 : True := trivial
theorem L181 : True := trivial
theorem L182 : True := trivial
theorem L183 : True := trivial
theorem L184 : True := trivial
theorem L185 : True := trivial
theorem L186 : True := trivial
theorem L187 : True := trivial
theorem L188 : True := trivial
theorem L189 : True := trivial
theorem L190 : True := trivial
theorem L191 : True := trivial
theorem L192 : True := trivial
theorem L193 : True := trivial
theorem L194 : True := trivial
theorem L195 : True := trivial
theorem L196 : True := trivial
theorem L197 : True := trivial
theorem L198 : True := trivial
theorem L199 : True := trivial
-- STAND-INS
section LCASES
variable {G : xG} {p : Program} {l : Launch} {e : Env} {s : State} {m : MethodId} {args : Array Value} {below : List Frame} {meth : Method} {c : Code} {cells slots B b L i : Nat} {Q : State → Prop} {d : xd} {xs : Nat → Int32}
set_option maxHeartbeats 1000000 in
set_option maxRecDepth 100000 in
theorem law_38 (C : Cx G p s m args c code (wsL_law ++ ws_cl) RL 9) (hfl : l.stackTraces = false) (h : y_Z B d) (hB : B + 180 < 100000) (hX : va_X b L xs s s.heap) (hbl : b < s.heap.size) (hbA : ¬ x_A G b) (hL : L < 2000) (hi : i + 3 ≤ L) (hc : cells + 1 ≤ 603072) (hs : slots + 6 ≤ 7170154) (K : ∀ (G2 : xG) (d2 : xd), x_b G2 = x_b G → Cx G2 p s m args c code (wsL_law ++ ws_cl) RL 9 → y_Z (B + 180) d2 → Ab G2 p l e room_1 s m args below meth c 9 (cells + 1) (slots + 6) Q 3091 [(5, .int (nI i)), (0, .ref b), (1, .ref (x_b G2 + 0)), (2, .ref (x_b G2 + 175)), (3, .ref (x_b G2 + 183)), (4, .ref (x_b G2 + 184))] [] d2) : Ab G p l e room_1 s m args below meth c 9 cells slots Q 2246 [(5, .int (nI i)), (0, .ref b), (1, .ref (x_b G + 0)), (2, .ref (x_b G + 175)), (3, .ref (x_b G + 183)), (4, .ref (x_b G + 184))] [] d := by
  obtain ⟨k, r, d1, hk3, hcl, hm⟩ := y_S.two (s_isDark (l := l) hfl h hB (xs (i + 1)))
  refine a_aload_n C dL_law_2246 2 rfl ?_
  refine a_aload_n C dL_law_2247 1 rfl ?_
  refine a_iload C dL_law_2248 0 rfl ?_
  refine a_iconst C dL_law_2250 (v := 1) (by decide) ?_
  refine a_iadd C dL_law_2251 ?_
  refine a_sld C hX hbl hbA (i := i + 1) (nI_add i 1) (by omega) (by omega) dL_law_2252 ?_
  refine a_aload_n C dL_law_2253 4 rfl ?_
  refine a_callL (G2 := (if k = 0 then x_sl G (x_lz r) else G)) (g2_sl_b _ _ _) C (As := [.ref (x_b G + 0), .int (xs (i + 1)), .ref (x_b G + 183)]) (rest := []) (w_isDark l G d d1 _ k r hcl) (vx_cwSW 3 C.1.2.2.2.2 (gl_law gL_law_L_isDark) rfl rfl rfl (by decide +kernel) ⟨Nat.le_of_ble_eq_true rfl, Nat.le_of_ble_eq_true rfl⟩) rfl rfl (Nat.le_of_ble_eq_true rfl) dL_law_2254 ⟨hc, hs⟩ (g2_sl_D _ _ _) ?_
  have C2 := C.sl_if k (x_lz r)
  have hb2 := g2_sl_b G (x_lz r) k
  have hl2 := g2_sl_v G (x_lz r) k
  generalize (if k = 0 then x_sl G (x_lz r) else G) = G2 at C2 hb2 hl2 ⊢
  have hbA2 : ¬ x_A G2 b := by
    unfold x_A
    rw [hb2]
    exact hbA
  rw [← hb2]
  obtain ⟨b0, d2, lv, hlv, hm2, h12, hrb, hz⟩ := hm G2
  refine a_istore C2 dL_law_2257 (by decide) (lst2 := [(6, .int (nI k)), (5, .int (nI i)), (0, .ref b), (1, .ref (x_b G2 + 0)), (2, .ref (x_b G2 + 175)), (3, .ref (x_b G2 + 183)), (4, .ref (x_b G2 + 184))]) rfl ?_
  refine a_aload_n C2 dL_law_2259 4 rfl ?_
  refine a_aload_n C2 dL_law_2260 2 rfl ?_
  refine a_iload C2 dL_law_2261 1 rfl ?_
  refine a_iconst C2 dL_law_2263 (v := 1) (by decide) ?_
  refine a_iadd C2 dL_law_2264 ?_
  refine a_sld C2 hX hbl hbA2 (i := i + 1) (nI_add i 1) (by omega) (by omega) dL_law_2265 ?_
  refine a_callV C2 (k := 175) (As := [.int (xs (i + 1))]) (rest := []) hm2 (cwV 1 C2.1.2.2.2.2 (gl_up gL_law_X12_isDark) rfl rfl rfl (by decide +kernel) ⟨by dsimp only [x_rm, room_1]; omega, by dsimp only [x_rm, room_1]; omega⟩) x_k175 (q := (RX12, TX12, 16)) rfl rfl rfl rfl (Nat.le_of_ble_eq_true rfl) dL_law_2266 ⟨hc, hs⟩ ?_
  refine a_istore C2 dL_law_2269 (by decide) (lst2 := [(7, .int b0), (6, .int (nI k)), (5, .int (nI i)), (0, .ref b), (1, .ref (x_b G2 + 0)), (2, .ref (x_b G2 + 175)), (3, .ref (x_b G2 + 183)), (4, .ref (x_b G2 + 184))]) rfl ?_
  refine a_aload_n C2 dL_law_2271 5 rfl ?_
  refine a_callV C2 (k := 175) (As := []) (rest := []) (c_M_thrown l G2 d2) (cwV 0 C2.1.2.2.2.2 (gl_up gL_law_X12_thrown) rfl rfl rfl (by decide +kernel) ⟨Nat.le_of_ble_eq_true rfl, Nat.le_of_ble_eq_true rfl⟩) x_k175 (q := (RX12, TX12, 16)) rfl rfl rfl rfl (Nat.le_of_ble_eq_true rfl) dL_law_2272 ⟨hc, hs⟩ ?_
  refine a_iload C2 dL_law_2275 1 rfl ?_
  refine a_icmp_eq C2 dL_law_2277 (tgt := 2282) (by decide) (fun _ => ?_) (fun hn => absurd h12 hn)
  refine a_iload C2 dL_law_2282 1 rfl ?_
  have FIN : Ab G2 p l e room_1 s m args below meth c 9 (cells + 1) (slots + 6) Q 2306 [(7, .int b0), (6, .int (nI k)), (5, .int (nI i)), (0, .ref b), (1, .ref (x_b G2 + 0)), (2, .ref (x_b G2 + 175)), (3, .ref (x_b G2 + 183)), (4, .ref (x_b G2 + 184))] [] d2 := a_goto C2 dL_law_2306 (tgt := 3091) (by decide) (a_sub (lst2 := [(5, .int (nI i)), (0, .ref b), (1, .ref (x_b G2 + 0)), (2, .ref (x_b G2 + 175)), (3, .ref (x_b G2 + 183)), (4, .ref (x_b G2 + 184))]) [2, 3, 4, 5, 6, 7] rfl (K G2 d2 hb2 C2 hz))
  refine a_if_ne C2 dL_law_2284 (tgt := 2306) (by decide) (fun _ => FIN) (fun hk0 => ?_)
  have hk : k = 0 := by
    rcases Nat.eq_zero_or_pos k with y | y
    · exact y
    · exact absurd hk0 (nI_ne0 (by omega) (by omega))
  refine a_aload_n C2 dL_law_2287 6 rfl ?_
  refine a_iconst C2 dL_law_2288 (v := 0) (by decide) ?_
  refine a_lald C2 dL_law_2289 ?_
  refine a_iload C2 dL_law_2290 0 rfl ?_
  refine a_if_eq C2 dL_law_2292 (tgt := 2299) (by decide) (fun hz0 => ?_) (fun hz0 => ?_)
  · refine a_lconst C2 dL_law_2299 rfl ?_
    refine a_lcmp C2 dL_law_2300 ?_
    exact a_if_eq C2 dL_law_2301 (tgt := 2306) (by decide) (fun _ => FIN) (fun hn => absurd ((lg_cmp_eq _ _).mpr (by rw [hl2 hk, hrb hk]; exact if_pos hz0)) hn)
  · refine a_lconst C2 dL_law_2295 rfl ?_
    refine a_goto C2 dL_law_2296 (tgt := 2300) (by decide) ?_
    refine a_lcmp C2 dL_law_2300 ?_
    exact a_if_eq C2 dL_law_2301 (tgt := 2306) (by decide) (fun _ => FIN) (fun hn => absurd ((lg_cmp_eq _ _).mpr (by rw [hl2 hk, hrb hk]; exact if_neg hz0)) hn)
set_option maxHeartbeats 1000000 in
set_option maxRecDepth 100000 in
theorem law_39 (C : Cx G p s m args c code (wsL_law ++ ws_cl) RL 9) (hfl : l.stackTraces = false) (h : y_Z B d) (hB : B + 180 < 100000) (hX : va_X b L xs s s.heap) (hbl : b < s.heap.size) (hbA : ¬ x_A G b) (hL : L < 2000) (hi : i + 3 ≤ L) (hc : cells + 1 ≤ 603072) (hs : slots + 6 ≤ 7170154) (K : ∀ (G2 : xG) (d2 : xd), x_b G2 = x_b G → Cx G2 p s m args c code (wsL_law ++ ws_cl) RL 9 → y_Z (B + 180) d2 → Ab G2 p l e room_1 s m args below meth c 9 (cells + 1) (slots + 6) Q 3091 [(5, .int (nI i)), (0, .ref b), (1, .ref (x_b G2 + 0)), (2, .ref (x_b G2 + 175)), (3, .ref (x_b G2 + 183)), (4, .ref (x_b G2 + 184))] [] d2) : Ab G p l e room_1 s m args below meth c 9 cells slots Q 2309 [(5, .int (nI i)), (0, .ref b), (1, .ref (x_b G + 0)), (2, .ref (x_b G + 175)), (3, .ref (x_b G + 183)), (4, .ref (x_b G + 184))] [] d := by
  obtain ⟨r, d1, d2, ⟨lv, hlv, hc1⟩, ⟨lv2, hlv2, hc2⟩, hz⟩ := s_brightestStreet (l := l) h hB
  refine a_aload_n C dL_law_2309 2 rfl ?_
  refine a_callV C (k := 0) (As := []) (rest := []) (hc1 G) (cwV 0 C.1.2.2.2.2 (gl_up gL_law_X11_brightestStreet) rfl rfl rfl (by decide +kernel) ⟨by dsimp only [x_rm, room_1]; omega, by dsimp only [x_rm, room_1]; omega⟩) x_k0 (q := (RX11, TX11, 13)) rfl rfl rfl rfl (Nat.le_of_ble_eq_true rfl) dL_law_2310 ⟨by show cells ≤ 603072; omega, by show slots ≤ 7170154; omega⟩ ?_
  refine a_aload_n C dL_law_2313 3 rfl ?_
  refine a_callV C (k := 175) (As := []) (rest := [.int r]) (hc2 G) (cwV 0 C.1.2.2.2.2 (gl_up gL_law_X12_brightestStreet) rfl rfl rfl (by decide +kernel) ⟨by dsimp only [x_rm, room_1]; omega, by dsimp only [x_rm, room_1]; omega⟩) x_k175 (q := (RX12, TX12, 16)) rfl rfl rfl rfl (Nat.le_of_ble_eq_true rfl) dL_law_2314 ⟨by show cells ≤ 603072; omega, by show slots ≤ 7170154; omega⟩ ?_
  refine a_icmp_eq C dL_law_2317 (tgt := 3091) (by decide) (fun _ => ?_) (fun hn => absurd rfl hn)
  refine a_widen (by omega) (by omega) ?_
  exact K G d2 rfl C hz
set_option maxHeartbeats 1000000 in
set_option maxRecDepth 100000 in
theorem law_40 (C : Cx G p s m args c code (wsL_law ++ ws_cl) RL 9) (hfl : l.stackTraces = false) (h : y_Z B d) (hB : B + 180 < 100000) (hX : va_X b L xs s s.heap) (hbl : b < s.heap.size) (hbA : ¬ x_A G b) (hL : L < 2000) (hi : i + 3 ≤ L) (hc : cells + 1 ≤ 603072) (hs : slots + 6 ≤ 7170154) (K : ∀ (G2 : xG) (d2 : xd), x_b G2 = x_b G → Cx G2 p s m args c code (wsL_law ++ ws_cl) RL 9 → y_Z (B + 180) d2 → Ab G2 p l e room_1 s m args below meth c 9 (cells + 1) (slots + 6) Q 3091 [(5, .int (nI i)), (0, .ref b), (1, .ref (x_b G2 + 0)), (2, .ref (x_b G2 + 175)), (3, .ref (x_b G2 + 183)), (4, .ref (x_b G2 + 184))] [] d2) : Ab G p l e room_1 s m args below meth c 9 cells slots Q 2322 [(5, .int (nI i)), (0, .ref b), (1, .ref (x_b G + 0)), (2, .ref (x_b G + 175)), (3, .ref (x_b G + 183)), (4, .ref (x_b G + 184))] [] d := by
  obtain ⟨k, r, d1, hk3, hcl, hm⟩ := y_S.two (s_proposeCap (l := l) hfl h hB (xs (i + 1)))
  refine a_aload_n C dL_law_2322 2 rfl ?_
  refine a_aload_n C dL_law_2323 1 rfl ?_
  refine a_iload C dL_law_2324 0 rfl ?_
  refine a_iconst C dL_law_2326 (v := 1) (by decide) ?_
  refine a_iadd C dL_law_2327 ?_
  refine a_sld C hX hbl hbA (i := i + 1) (nI_add i 1) (by omega) (by omega) dL_law_2328 ?_
  refine a_aload_n C dL_law_2329 4 rfl ?_
  refine a_callL (G2 := (if k = 0 then x_sl G (x_lz r) else G)) (g2_sl_b _ _ _) C (As := [.ref (x_b G + 0), .int (xs (i + 1)), .ref (x_b G + 183)]) (rest := []) (w_proposeCap l G d d1 _ k r hcl) (vx_cwSW 3 C.1.2.2.2.2 (gl_law gL_law_L_proposeCap) rfl rfl rfl (by decide +kernel) ⟨Nat.le_of_ble_eq_true rfl, Nat.le_of_ble_eq_true rfl⟩) rfl rfl (Nat.le_of_ble_eq_true rfl) dL_law_2330 ⟨hc, hs⟩ (g2_sl_D _ _ _) ?_
  have C2 := C.sl_if k (x_lz r)
  have hb2 := g2_sl_b G (x_lz r) k
  have hl2 := g2_sl_v G (x_lz r) k
  generalize (if k = 0 then x_sl G (x_lz r) else G) = G2 at C2 hb2 hl2 ⊢
  have hbA2 : ¬ x_A G2 b := by
    unfold x_A
    rw [hb2]
    exact hbA
  rw [← hb2]
  obtain ⟨b0, d2, lv, hlv, hm2, h12, hrb, hz⟩ := hm G2
  refine a_istore C2 dL_law_2333 (by decide) (lst2 := [(6, .int (nI k)), (5, .int (nI i)), (0, .ref b), (1, .ref (x_b G2 + 0)), (2, .ref (x_b G2 + 175)), (3, .ref (x_b G2 + 183)), (4, .ref (x_b G2 + 184))]) rfl ?_
  refine a_aload_n C2 dL_law_2335 4 rfl ?_
  refine a_aload_n C2 dL_law_2336 2 rfl ?_
  refine a_iload C2 dL_law_2337 1 rfl ?_
  refine a_iconst C2 dL_law_2339 (v := 1) (by decide) ?_
  refine a_iadd C2 dL_law_2340 ?_
  refine a_sld C2 hX hbl hbA2 (i := i + 1) (nI_add i 1) (by omega) (by omega) dL_law_2341 ?_
  refine a_callV C2 (k := 175) (As := [.int (xs (i + 1))]) (rest := []) hm2 (cwV 1 C2.1.2.2.2.2 (gl_up gL_law_X12_proposeCap) rfl rfl rfl (by decide +kernel) ⟨by dsimp only [x_rm, room_1]; omega, by dsimp only [x_rm, room_1]; omega⟩) x_k175 (q := (RX12, TX12, 16)) rfl rfl rfl rfl (Nat.le_of_ble_eq_true rfl) dL_law_2342 ⟨hc, hs⟩ ?_
  refine a_istore C2 dL_law_2345 (by decide) (lst2 := [(7, .int b0), (6, .int (nI k)), (5, .int (nI i)), (0, .ref b), (1, .ref (x_b G2 + 0)), (2, .ref (x_b G2 + 175)), (3, .ref (x_b G2 + 183)), (4, .ref (x_b G2 + 184))]) rfl ?_
  refine a_aload_n C2 dL_law_2347 5 rfl ?_
  refine a_callV C2 (k := 175) (As := []) (rest := []) (c_M_thrown l G2 d2) (cwV 0 C2.1.2.2.2.2 (gl_up gL_law_X12_thrown) rfl rfl rfl (by decide +kernel) ⟨Nat.le_of_ble_eq_true rfl, Nat.le_of_ble_eq_true rfl⟩) x_k175 (q := (RX12, TX12, 16)) rfl rfl rfl rfl (Nat.le_of_ble_eq_true rfl) dL_law_2348 ⟨hc, hs⟩ ?_
  refine a_iload C2 dL_law_2351 1 rfl ?_
  refine a_icmp_eq C2 dL_law_2353 (tgt := 2358) (by decide) (fun _ => ?_) (fun hn => absurd h12 hn)
  refine a_iload C2 dL_law_2358 1 rfl ?_
  have FIN : Ab G2 p l e room_1 s m args below meth c 9 (cells + 1) (slots + 6) Q 2382 [(7, .int b0), (6, .int (nI k)), (5, .int (nI i)), (0, .ref b), (1, .ref (x_b G2 + 0)), (2, .ref (x_b G2 + 175)), (3, .ref (x_b G2 + 183)), (4, .ref (x_b G2 + 184))] [] d2 := a_goto C2 dL_law_2382 (tgt := 3091) (by decide) (a_sub (lst2 := [(5, .int (nI i)), (0, .ref b), (1, .ref (x_b G2 + 0)), (2, .ref (x_b G2 + 175)), (3, .ref (x_b G2 + 183)), (4, .ref (x_b G2 + 184))]) [2, 3, 4, 5, 6, 7] rfl (K G2 d2 hb2 C2 hz))
  refine a_if_ne C2 dL_law_2360 (tgt := 2382) (by decide) (fun _ => FIN) (fun hk0 => ?_)
  have hk : k = 0 := by
    rcases Nat.eq_zero_or_pos k with y | y
    · exact y
    · exact absurd hk0 (nI_ne0 (by omega) (by omega))
  refine a_aload_n C2 dL_law_2363 6 rfl ?_
  refine a_iconst C2 dL_law_2364 (v := 0) (by decide) ?_
  refine a_lald C2 dL_law_2365 ?_
  refine a_iload C2 dL_law_2366 0 rfl ?_
  refine a_if_eq C2 dL_law_2368 (tgt := 2375) (by decide) (fun hz0 => ?_) (fun hz0 => ?_)
  · refine a_lconst C2 dL_law_2375 rfl ?_
    refine a_lcmp C2 dL_law_2376 ?_
    exact a_if_eq C2 dL_law_2377 (tgt := 2382) (by decide) (fun _ => FIN) (fun hn => absurd ((lg_cmp_eq _ _).mpr (by rw [hl2 hk, hrb hk]; exact if_pos hz0)) hn)
  · refine a_lconst C2 dL_law_2371 rfl ?_
    refine a_goto C2 dL_law_2372 (tgt := 2376) (by decide) ?_
    refine a_lcmp C2 dL_law_2376 ?_
    exact a_if_eq C2 dL_law_2377 (tgt := 2382) (by decide) (fun _ => FIN) (fun hn => absurd ((lg_cmp_eq _ _).mpr (by rw [hl2 hk, hrb hk]; exact if_neg hz0)) hn)
set_option maxHeartbeats 1000000 in
set_option maxRecDepth 100000 in
theorem law_41 (C : Cx G p s m args c code (wsL_law ++ ws_cl) RL 9) (hfl : l.stackTraces = false) (h : y_Z B d) (hB : B + 180 < 100000) (hX : va_X b L xs s s.heap) (hbl : b < s.heap.size) (hbA : ¬ x_A G b) (hL : L < 2000) (hi : i + 3 ≤ L) (hc : cells + 1 ≤ 603072) (hs : slots + 6 ≤ 7170154) (K : ∀ (G2 : xG) (d2 : xd), x_b G2 = x_b G → Cx G2 p s m args c code (wsL_law ++ ws_cl) RL 9 → y_Z (B + 180) d2 → Ab G2 p l e room_1 s m args below meth c 9 (cells + 1) (slots + 6) Q 3091 [(5, .int (nI i)), (0, .ref b), (1, .ref (x_b G2 + 0)), (2, .ref (x_b G2 + 175)), (3, .ref (x_b G2 + 183)), (4, .ref (x_b G2 + 184))] [] d2) : Ab G p l e room_1 s m args below meth c 9 cells slots Q 2385 [(5, .int (nI i)), (0, .ref b), (1, .ref (x_b G + 0)), (2, .ref (x_b G + 175)), (3, .ref (x_b G + 183)), (4, .ref (x_b G + 184))] [] d := by
  obtain ⟨k, r, d1, hk3, hcl, hm⟩ := y_S.two (s_votesFor (l := l) hfl h hB (xs (i + 1)))
  refine a_aload_n C dL_law_2385 2 rfl ?_
  refine a_aload_n C dL_law_2386 1 rfl ?_
  refine a_iload C dL_law_2387 0 rfl ?_
  refine a_iconst C dL_law_2389 (v := 1) (by decide) ?_
  refine a_iadd C dL_law_2390 ?_
  refine a_sld C hX hbl hbA (i := i + 1) (nI_add i 1) (by omega) (by omega) dL_law_2391 ?_
  refine a_aload_n C dL_law_2392 4 rfl ?_
  refine a_callL (G2 := (if k = 0 then x_sl G r.toInt64 else G)) (g2_sl_b _ _ _) C (As := [.ref (x_b G + 0), .int (xs (i + 1)), .ref (x_b G + 183)]) (rest := []) (w_votesFor l G d d1 _ k r hcl) (vx_cwSW 3 C.1.2.2.2.2 (gl_law gL_law_L_votesFor) rfl rfl rfl (by decide +kernel) ⟨Nat.le_of_ble_eq_true rfl, Nat.le_of_ble_eq_true rfl⟩) rfl rfl (Nat.le_of_ble_eq_true rfl) dL_law_2393 ⟨hc, hs⟩ (g2_sl_D _ _ _) ?_
  have C2 := C.sl_if k r.toInt64
  have hb2 := g2_sl_b G r.toInt64 k
  have hl2 := g2_sl_v G r.toInt64 k
  generalize (if k = 0 then x_sl G r.toInt64 else G) = G2 at C2 hb2 hl2 ⊢
  have hbA2 : ¬ x_A G2 b := by
    unfold x_A
    rw [hb2]
    exact hbA
  rw [← hb2]
  obtain ⟨b0, d2, lv, hlv, hm2, h12, hrb, hz⟩ := hm G2
  refine a_istore C2 dL_law_2396 (by decide) (lst2 := [(6, .int (nI k)), (5, .int (nI i)), (0, .ref b), (1, .ref (x_b G2 + 0)), (2, .ref (x_b G2 + 175)), (3, .ref (x_b G2 + 183)), (4, .ref (x_b G2 + 184))]) rfl ?_
  refine a_aload_n C2 dL_law_2398 4 rfl ?_
  refine a_aload_n C2 dL_law_2399 2 rfl ?_
  refine a_iload C2 dL_law_2400 1 rfl ?_
  refine a_iconst C2 dL_law_2402 (v := 1) (by decide) ?_
  refine a_iadd C2 dL_law_2403 ?_
  refine a_sld C2 hX hbl hbA2 (i := i + 1) (nI_add i 1) (by omega) (by omega) dL_law_2404 ?_
  refine a_callV C2 (k := 175) (As := [.int (xs (i + 1))]) (rest := []) hm2 (cwV 1 C2.1.2.2.2.2 (gl_up gL_law_X12_votesFor) rfl rfl rfl (by decide +kernel) ⟨by dsimp only [x_rm, room_1]; omega, by dsimp only [x_rm, room_1]; omega⟩) x_k175 (q := (RX12, TX12, 16)) rfl rfl rfl rfl (Nat.le_of_ble_eq_true rfl) dL_law_2405 ⟨hc, hs⟩ ?_
  refine a_istore C2 dL_law_2408 (by decide) (lst2 := [(7, .int b0), (6, .int (nI k)), (5, .int (nI i)), (0, .ref b), (1, .ref (x_b G2 + 0)), (2, .ref (x_b G2 + 175)), (3, .ref (x_b G2 + 183)), (4, .ref (x_b G2 + 184))]) rfl ?_
  refine a_aload_n C2 dL_law_2410 5 rfl ?_
  refine a_callV C2 (k := 175) (As := []) (rest := []) (c_M_thrown l G2 d2) (cwV 0 C2.1.2.2.2.2 (gl_up gL_law_X12_thrown) rfl rfl rfl (by decide +kernel) ⟨Nat.le_of_ble_eq_true rfl, Nat.le_of_ble_eq_true rfl⟩) x_k175 (q := (RX12, TX12, 16)) rfl rfl rfl rfl (Nat.le_of_ble_eq_true rfl) dL_law_2411 ⟨hc, hs⟩ ?_
  refine a_iload C2 dL_law_2414 1 rfl ?_
  refine a_icmp_eq C2 dL_law_2416 (tgt := 2421) (by decide) (fun _ => ?_) (fun hn => absurd h12 hn)
  refine a_iload C2 dL_law_2421 1 rfl ?_
  have FIN : Ab G2 p l e room_1 s m args below meth c 9 (cells + 1) (slots + 6) Q 2438 [(7, .int b0), (6, .int (nI k)), (5, .int (nI i)), (0, .ref b), (1, .ref (x_b G2 + 0)), (2, .ref (x_b G2 + 175)), (3, .ref (x_b G2 + 183)), (4, .ref (x_b G2 + 184))] [] d2 := a_goto C2 dL_law_2438 (tgt := 3091) (by decide) (a_sub (lst2 := [(5, .int (nI i)), (0, .ref b), (1, .ref (x_b G2 + 0)), (2, .ref (x_b G2 + 175)), (3, .ref (x_b G2 + 183)), (4, .ref (x_b G2 + 184))]) [2, 3, 4, 5, 6, 7] rfl (K G2 d2 hb2 C2 hz))
  refine a_if_ne C2 dL_law_2423 (tgt := 2438) (by decide) (fun _ => FIN) (fun hk0 => ?_)
  have hk : k = 0 := by
    rcases Nat.eq_zero_or_pos k with y | y
    · exact y
    · exact absurd hk0 (nI_ne0 (by omega) (by omega))
  refine a_aload_n C2 dL_law_2426 6 rfl ?_
  refine a_iconst C2 dL_law_2427 (v := 0) (by decide) ?_
  refine a_lald C2 dL_law_2428 ?_
  refine a_iload C2 dL_law_2429 0 rfl ?_
  refine a_i2l C2 dL_law_2431 ?_
  refine a_lcmp C2 dL_law_2432 ?_
  exact a_if_eq C2 dL_law_2433 (tgt := 2438) (by decide) (fun _ => FIN) (fun hn => absurd ((lg_cmp_eq _ _).mpr (by rw [hl2 hk, hrb hk])) hn)
set_option maxHeartbeats 1000000 in
set_option maxRecDepth 100000 in
theorem law_42 (C : Cx G p s m args c code (wsL_law ++ ws_cl) RL 9) (hfl : l.stackTraces = false) (h : y_Z B d) (hB : B + 180 < 100000) (hX : va_X b L xs s s.heap) (hbl : b < s.heap.size) (hbA : ¬ x_A G b) (hL : L < 2000) (hi : i + 3 ≤ L) (hc : cells + 1 ≤ 603072) (hs : slots + 6 ≤ 7170154) (K : ∀ (G2 : xG) (d2 : xd), x_b G2 = x_b G → Cx G2 p s m args c code (wsL_law ++ ws_cl) RL 9 → y_Z (B + 180) d2 → Ab G2 p l e room_1 s m args below meth c 9 (cells + 1) (slots + 6) Q 3091 [(5, .int (nI i)), (0, .ref b), (1, .ref (x_b G2 + 0)), (2, .ref (x_b G2 + 175)), (3, .ref (x_b G2 + 183)), (4, .ref (x_b G2 + 184))] [] d2) : Ab G p l e room_1 s m args below meth c 9 cells slots Q 2441 [(5, .int (nI i)), (0, .ref b), (1, .ref (x_b G + 0)), (2, .ref (x_b G + 175)), (3, .ref (x_b G + 183)), (4, .ref (x_b G + 184))] [] d := by
  obtain ⟨k, r, d1, hk3, hcl, hm⟩ := y_S.two (s_lowestCap (l := l) hfl h hB)
  refine a_aload_n C dL_law_2441 2 rfl ?_
  refine a_aload_n C dL_law_2442 4 rfl ?_
  refine a_callL (G2 := (if k = 0 then x_sl G r.toInt64 else G)) (g2_sl_b _ _ _) C (As := [.ref (x_b G + 0), .ref (x_b G + 183)]) (rest := []) (w_lowestCap l G d d1  k r hcl) (vx_cwSW 2 C.1.2.2.2.2 (gl_law gL_law_L_lowestCap) rfl rfl rfl (by decide +kernel) ⟨Nat.le_of_ble_eq_true rfl, Nat.le_of_ble_eq_true rfl⟩) rfl rfl (Nat.le_of_ble_eq_true rfl) dL_law_2443 ⟨hc, hs⟩ (g2_sl_D _ _ _) ?_
  have C2 := C.sl_if k r.toInt64
  have hb2 := g2_sl_b G r.toInt64 k
  have hl2 := g2_sl_v G r.toInt64 k
  generalize (if k = 0 then x_sl G r.toInt64 else G) = G2 at C2 hb2 hl2 ⊢
  have hbA2 : ¬ x_A G2 b := by
    unfold x_A
    rw [hb2]
    exact hbA
  rw [← hb2]
  obtain ⟨b0, d2, lv, hlv, hm2, h12, hrb, hz⟩ := hm G2
  refine a_istore C2 dL_law_2446 (by decide) (lst2 := [(6, .int (nI k)), (5, .int (nI i)), (0, .ref b), (1, .ref (x_b G2 + 0)), (2, .ref (x_b G2 + 175)), (3, .ref (x_b G2 + 183)), (4, .ref (x_b G2 + 184))]) rfl ?_
  refine a_aload_n C2 dL_law_2448 4 rfl ?_
  refine a_callV C2 (k := 175) (As := []) (rest := []) hm2 (cwV 0 C2.1.2.2.2.2 (gl_up gL_law_X12_lowestCap) rfl rfl rfl (by decide +kernel) ⟨by dsimp only [x_rm, room_1]; omega, by dsimp only [x_rm, room_1]; omega⟩) x_k175 (q := (RX12, TX12, 16)) rfl rfl rfl rfl (Nat.le_of_ble_eq_true rfl) dL_law_2449 ⟨hc, hs⟩ ?_
  refine a_istore C2 dL_law_2452 (by decide) (lst2 := [(7, .int b0), (6, .int (nI k)), (5, .int (nI i)), (0, .ref b), (1, .ref (x_b G2 + 0)), (2, .ref (x_b G2 + 175)), (3, .ref (x_b G2 + 183)), (4, .ref (x_b G2 + 184))]) rfl ?_
  refine a_aload_n C2 dL_law_2454 5 rfl ?_
  refine a_callV C2 (k := 175) (As := []) (rest := []) (c_M_thrown l G2 d2) (cwV 0 C2.1.2.2.2.2 (gl_up gL_law_X12_thrown) rfl rfl rfl (by decide +kernel) ⟨Nat.le_of_ble_eq_true rfl, Nat.le_of_ble_eq_true rfl⟩) x_k175 (q := (RX12, TX12, 16)) rfl rfl rfl rfl (Nat.le_of_ble_eq_true rfl) dL_law_2455 ⟨hc, hs⟩ ?_
  refine a_iload C2 dL_law_2458 1 rfl ?_
  refine a_icmp_eq C2 dL_law_2460 (tgt := 2465) (by decide) (fun _ => ?_) (fun hn => absurd h12 hn)
  refine a_iload C2 dL_law_2465 1 rfl ?_
  have FIN : Ab G2 p l e room_1 s m args below meth c 9 (cells + 1) (slots + 6) Q 2482 [(7, .int b0), (6, .int (nI k)), (5, .int (nI i)), (0, .ref b), (1, .ref (x_b G2 + 0)), (2, .ref (x_b G2 + 175)), (3, .ref (x_b G2 + 183)), (4, .ref (x_b G2 + 184))] [] d2 := a_goto C2 dL_law_2482 (tgt := 3091) (by decide) (a_sub (lst2 := [(5, .int (nI i)), (0, .ref b), (1, .ref (x_b G2 + 0)), (2, .ref (x_b G2 + 175)), (3, .ref (x_b G2 + 183)), (4, .ref (x_b G2 + 184))]) [2, 3, 4, 5, 6, 7] rfl (K G2 d2 hb2 C2 hz))
  refine a_if_ne C2 dL_law_2467 (tgt := 2482) (by decide) (fun _ => FIN) (fun hk0 => ?_)
  have hk : k = 0 := by
    rcases Nat.eq_zero_or_pos k with y | y
    · exact y
    · exact absurd hk0 (nI_ne0 (by omega) (by omega))
  refine a_aload_n C2 dL_law_2470 6 rfl ?_
  refine a_iconst C2 dL_law_2471 (v := 0) (by decide) ?_
  refine a_lald C2 dL_law_2472 ?_
  refine a_iload C2 dL_law_2473 0 rfl ?_
  refine a_i2l C2 dL_law_2475 ?_
  refine a_lcmp C2 dL_law_2476 ?_
  exact a_if_eq C2 dL_law_2477 (tgt := 2482) (by decide) (fun _ => FIN) (fun hn => absurd ((lg_cmp_eq _ _).mpr (by rw [hl2 hk, hrb hk])) hn)
set_option maxHeartbeats 1000000 in
set_option maxRecDepth 100000 in
theorem law_43 (C : Cx G p s m args c code (wsL_law ++ ws_cl) RL 9) (hfl : l.stackTraces = false) (h : y_Z B d) (hB : B + 180 < 100000) (hX : va_X b L xs s s.heap) (hbl : b < s.heap.size) (hbA : ¬ x_A G b) (hL : L < 2000) (hi : i + 3 ≤ L) (hc : cells + 1 ≤ 603072) (hs : slots + 6 ≤ 7170154) (K : ∀ (G2 : xG) (d2 : xd), x_b G2 = x_b G → Cx G2 p s m args c code (wsL_law ++ ws_cl) RL 9 → y_Z (B + 180) d2 → Ab G2 p l e room_1 s m args below meth c 9 (cells + 1) (slots + 6) Q 3091 [(5, .int (nI i)), (0, .ref b), (1, .ref (x_b G2 + 0)), (2, .ref (x_b G2 + 175)), (3, .ref (x_b G2 + 183)), (4, .ref (x_b G2 + 184))] [] d2) : Ab G p l e room_1 s m args below meth c 9 cells slots Q 2485 [(5, .int (nI i)), (0, .ref b), (1, .ref (x_b G + 0)), (2, .ref (x_b G + 175)), (3, .ref (x_b G + 183)), (4, .ref (x_b G + 184))] [] d := by
  obtain ⟨r, d1, d2, ⟨lv, hlv, hc1⟩, ⟨lv2, hlv2, hc2⟩, hz⟩ := s_totalShares (l := l) h hB
  refine a_aload_n C dL_law_2485 2 rfl ?_
  refine a_callV C (k := 0) (As := []) (rest := []) (hc1 G) (cwV 0 C.1.2.2.2.2 (gl_up gL_law_X11_totalShares) rfl rfl rfl (by decide +kernel) ⟨by dsimp only [x_rm, room_1]; omega, by dsimp only [x_rm, room_1]; omega⟩) x_k0 (q := (RX11, TX11, 13)) rfl rfl rfl rfl (Nat.le_of_ble_eq_true rfl) dL_law_2486 ⟨by show cells ≤ 603072; omega, by show slots ≤ 7170154; omega⟩ ?_
  refine a_aload_n C dL_law_2489 3 rfl ?_
  refine a_callV C (k := 175) (As := []) (rest := [.int r]) (hc2 G) (cwV 0 C.1.2.2.2.2 (gl_up gL_law_X12_totalShares) rfl rfl rfl (by decide +kernel) ⟨by dsimp only [x_rm, room_1]; omega, by dsimp only [x_rm, room_1]; omega⟩) x_k175 (q := (RX12, TX12, 16)) rfl rfl rfl rfl (Nat.le_of_ble_eq_true rfl) dL_law_2490 ⟨by show cells ≤ 603072; omega, by show slots ≤ 7170154; omega⟩ ?_
  refine a_icmp_eq C dL_law_2493 (tgt := 3091) (by decide) (fun _ => ?_) (fun hn => absurd rfl hn)
  refine a_widen (by omega) (by omega) ?_
  exact K G d2 rfl C hz
set_option maxHeartbeats 1000000 in
set_option maxRecDepth 100000 in
theorem law_44 (C : Cx G p s m args c code (wsL_law ++ ws_cl) RL 9) (hfl : l.stackTraces = false) (h : y_Z B d) (hB : B + 180 < 100000) (hX : va_X b L xs s s.heap) (hbl : b < s.heap.size) (hbA : ¬ x_A G b) (hL : L < 2000) (hi : i + 3 ≤ L) (hc : cells + 1 ≤ 603072) (hs : slots + 6 ≤ 7170154) (K : ∀ (G2 : xG) (d2 : xd), x_b G2 = x_b G → Cx G2 p s m args c code (wsL_law ++ ws_cl) RL 9 → y_Z (B + 180) d2 → Ab G2 p l e room_1 s m args below meth c 9 (cells + 1) (slots + 6) Q 3091 [(5, .int (nI i)), (0, .ref b), (1, .ref (x_b G2 + 0)), (2, .ref (x_b G2 + 175)), (3, .ref (x_b G2 + 183)), (4, .ref (x_b G2 + 184))] [] d2) : Ab G p l e room_1 s m args below meth c 9 cells slots Q 2498 [(5, .int (nI i)), (0, .ref b), (1, .ref (x_b G + 0)), (2, .ref (x_b G + 175)), (3, .ref (x_b G + 183)), (4, .ref (x_b G + 184))] [] d := by
  obtain ⟨k, r, d1, hk3, hcl, hm⟩ := y_S.two (s_richestLamp (l := l) hfl h hB (xs (i + 1)))
  refine a_aload_n C dL_law_2498 2 rfl ?_
  refine a_aload_n C dL_law_2499 1 rfl ?_
  refine a_iload C dL_law_2500 0 rfl ?_
  refine a_iconst C dL_law_2502 (v := 1) (by decide) ?_
  refine a_iadd C dL_law_2503 ?_
  refine a_sld C hX hbl hbA (i := i + 1) (nI_add i 1) (by omega) (by omega) dL_law_2504 ?_
  refine a_aload_n C dL_law_2505 4 rfl ?_
  refine a_callL (G2 := (if k = 0 then x_sl G r.toInt64 else G)) (g2_sl_b _ _ _) C (As := [.ref (x_b G + 0), .int (xs (i + 1)), .ref (x_b G + 183)]) (rest := []) (w_richestLamp l G d d1 _ k r hcl) (vx_cwSW 3 C.1.2.2.2.2 (gl_law gL_law_L_richestLamp) rfl rfl rfl (by decide +kernel) ⟨Nat.le_of_ble_eq_true rfl, Nat.le_of_ble_eq_true rfl⟩) rfl rfl (Nat.le_of_ble_eq_true rfl) dL_law_2506 ⟨hc, hs⟩ (g2_sl_D _ _ _) ?_
  have C2 := C.sl_if k r.toInt64
  have hb2 := g2_sl_b G r.toInt64 k
  have hl2 := g2_sl_v G r.toInt64 k
  generalize (if k = 0 then x_sl G r.toInt64 else G) = G2 at C2 hb2 hl2 ⊢
  have hbA2 : ¬ x_A G2 b := by
    unfold x_A
    rw [hb2]
    exact hbA
  rw [← hb2]
  obtain ⟨b0, d2, lv, hlv, hm2, h12, hrb, hz⟩ := hm G2
  refine a_istore C2 dL_law_2509 (by decide) (lst2 := [(6, .int (nI k)), (5, .int (nI i)), (0, .ref b), (1, .ref (x_b G2 + 0)), (2, .ref (x_b G2 + 175)), (3, .ref (x_b G2 + 183)), (4, .ref (x_b G2 + 184))]) rfl ?_
  refine a_aload_n C2 dL_law_2511 4 rfl ?_
  refine a_aload_n C2 dL_law_2512 2 rfl ?_
  refine a_iload C2 dL_law_2513 1 rfl ?_
  refine a_iconst C2 dL_law_2515 (v := 1) (by decide) ?_
  refine a_iadd C2 dL_law_2516 ?_
  refine a_sld C2 hX hbl hbA2 (i := i + 1) (nI_add i 1) (by omega) (by omega) dL_law_2517 ?_
  refine a_callV C2 (k := 175) (As := [.int (xs (i + 1))]) (rest := []) hm2 (cwV 1 C2.1.2.2.2.2 (gl_up gL_law_X12_richestLamp) rfl rfl rfl (by decide +kernel) ⟨by dsimp only [x_rm, room_1]; omega, by dsimp only [x_rm, room_1]; omega⟩) x_k175 (q := (RX12, TX12, 16)) rfl rfl rfl rfl (Nat.le_of_ble_eq_true rfl) dL_law_2518 ⟨hc, hs⟩ ?_
  refine a_istore C2 dL_law_2521 (by decide) (lst2 := [(7, .int b0), (6, .int (nI k)), (5, .int (nI i)), (0, .ref b), (1, .ref (x_b G2 + 0)), (2, .ref (x_b G2 + 175)), (3, .ref (x_b G2 + 183)), (4, .ref (x_b G2 + 184))]) rfl ?_
  refine a_aload_n C2 dL_law_2523 5 rfl ?_
  refine a_callV C2 (k := 175) (As := []) (rest := []) (c_M_thrown l G2 d2) (cwV 0 C2.1.2.2.2.2 (gl_up gL_law_X12_thrown) rfl rfl rfl (by decide +kernel) ⟨Nat.le_of_ble_eq_true rfl, Nat.le_of_ble_eq_true rfl⟩) x_k175 (q := (RX12, TX12, 16)) rfl rfl rfl rfl (Nat.le_of_ble_eq_true rfl) dL_law_2524 ⟨hc, hs⟩ ?_
  refine a_iload C2 dL_law_2527 1 rfl ?_
  refine a_icmp_eq C2 dL_law_2529 (tgt := 2534) (by decide) (fun _ => ?_) (fun hn => absurd h12 hn)
  refine a_iload C2 dL_law_2534 1 rfl ?_
  have FIN : Ab G2 p l e room_1 s m args below meth c 9 (cells + 1) (slots + 6) Q 2551 [(7, .int b0), (6, .int (nI k)), (5, .int (nI i)), (0, .ref b), (1, .ref (x_b G2 + 0)), (2, .ref (x_b G2 + 175)), (3, .ref (x_b G2 + 183)), (4, .ref (x_b G2 + 184))] [] d2 := a_goto C2 dL_law_2551 (tgt := 3091) (by decide) (a_sub (lst2 := [(5, .int (nI i)), (0, .ref b), (1, .ref (x_b G2 + 0)), (2, .ref (x_b G2 + 175)), (3, .ref (x_b G2 + 183)), (4, .ref (x_b G2 + 184))]) [2, 3, 4, 5, 6, 7] rfl (K G2 d2 hb2 C2 hz))
  refine a_if_ne C2 dL_law_2536 (tgt := 2551) (by decide) (fun _ => FIN) (fun hk0 => ?_)
  have hk : k = 0 := by
    rcases Nat.eq_zero_or_pos k with y | y
    · exact y
    · exact absurd hk0 (nI_ne0 (by omega) (by omega))
  refine a_aload_n C2 dL_law_2539 6 rfl ?_
  refine a_iconst C2 dL_law_2540 (v := 0) (by decide) ?_
  refine a_lald C2 dL_law_2541 ?_
  refine a_iload C2 dL_law_2542 0 rfl ?_
  refine a_i2l C2 dL_law_2544 ?_
  refine a_lcmp C2 dL_law_2545 ?_
  exact a_if_eq C2 dL_law_2546 (tgt := 2551) (by decide) (fun _ => FIN) (fun hn => absurd ((lg_cmp_eq _ _).mpr (by rw [hl2 hk, hrb hk])) hn)
set_option maxHeartbeats 1000000 in
set_option maxRecDepth 100000 in
theorem law_45 (C : Cx G p s m args c code (wsL_law ++ ws_cl) RL 9) (hfl : l.stackTraces = false) (h : y_Z B d) (hB : B + 180 < 100000) (hX : va_X b L xs s s.heap) (hbl : b < s.heap.size) (hbA : ¬ x_A G b) (hL : L < 2000) (hi : i + 3 ≤ L) (hc : cells + 1 ≤ 603072) (hs : slots + 6 ≤ 7170154) (K : ∀ (G2 : xG) (d2 : xd), x_b G2 = x_b G → Cx G2 p s m args c code (wsL_law ++ ws_cl) RL 9 → y_Z (B + 180) d2 → Ab G2 p l e room_1 s m args below meth c 9 (cells + 1) (slots + 6) Q 3091 [(5, .int (nI i)), (0, .ref b), (1, .ref (x_b G2 + 0)), (2, .ref (x_b G2 + 175)), (3, .ref (x_b G2 + 183)), (4, .ref (x_b G2 + 184))] [] d2) : Ab G p l e room_1 s m args below meth c 9 cells slots Q 2554 [(5, .int (nI i)), (0, .ref b), (1, .ref (x_b G + 0)), (2, .ref (x_b G + 175)), (3, .ref (x_b G + 183)), (4, .ref (x_b G + 184))] [] d := by
  obtain ⟨k, r, d1, hk3, hcl, hm⟩ := y_S.two (s_longestLamp (l := l) hfl h hB (xs (i + 1)))
  refine a_aload_n C dL_law_2554 2 rfl ?_
  refine a_aload_n C dL_law_2555 1 rfl ?_
  refine a_iload C dL_law_2556 0 rfl ?_
  refine a_iconst C dL_law_2558 (v := 1) (by decide) ?_
  refine a_iadd C dL_law_2559 ?_
  refine a_sld C hX hbl hbA (i := i + 1) (nI_add i 1) (by omega) (by omega) dL_law_2560 ?_
  refine a_aload_n C dL_law_2561 4 rfl ?_
  refine a_callL (G2 := (if k = 0 then x_sl G r.toInt64 else G)) (g2_sl_b _ _ _) C (As := [.ref (x_b G + 0), .int (xs (i + 1)), .ref (x_b G + 183)]) (rest := []) (w_longestLamp l G d d1 _ k r hcl) (vx_cwSW 3 C.1.2.2.2.2 (gl_law gL_law_L_longestLamp) rfl rfl rfl (by decide +kernel) ⟨Nat.le_of_ble_eq_true rfl, Nat.le_of_ble_eq_true rfl⟩) rfl rfl (Nat.le_of_ble_eq_true rfl) dL_law_2562 ⟨hc, hs⟩ (g2_sl_D _ _ _) ?_
  have C2 := C.sl_if k r.toInt64
  have hb2 := g2_sl_b G r.toInt64 k
  have hl2 := g2_sl_v G r.toInt64 k
  generalize (if k = 0 then x_sl G r.toInt64 else G) = G2 at C2 hb2 hl2 ⊢
  have hbA2 : ¬ x_A G2 b := by
    unfold x_A
    rw [hb2]
    exact hbA
  rw [← hb2]
  obtain ⟨b0, d2, lv, hlv, hm2, h12, hrb, hz⟩ := hm G2
  refine a_istore C2 dL_law_2565 (by decide) (lst2 := [(6, .int (nI k)), (5, .int (nI i)), (0, .ref b), (1, .ref (x_b G2 + 0)), (2, .ref (x_b G2 + 175)), (3, .ref (x_b G2 + 183)), (4, .ref (x_b G2 + 184))]) rfl ?_
  refine a_aload_n C2 dL_law_2567 4 rfl ?_
  refine a_aload_n C2 dL_law_2568 2 rfl ?_
  refine a_iload C2 dL_law_2569 1 rfl ?_
  refine a_iconst C2 dL_law_2571 (v := 1) (by decide) ?_
  refine a_iadd C2 dL_law_2572 ?_
  refine a_sld C2 hX hbl hbA2 (i := i + 1) (nI_add i 1) (by omega) (by omega) dL_law_2573 ?_
  refine a_callV C2 (k := 175) (As := [.int (xs (i + 1))]) (rest := []) hm2 (cwV 1 C2.1.2.2.2.2 (gl_up gL_law_X12_longestLamp) rfl rfl rfl (by decide +kernel) ⟨by dsimp only [x_rm, room_1]; omega, by dsimp only [x_rm, room_1]; omega⟩) x_k175 (q := (RX12, TX12, 16)) rfl rfl rfl rfl (Nat.le_of_ble_eq_true rfl) dL_law_2574 ⟨hc, hs⟩ ?_
  refine a_istore C2 dL_law_2577 (by decide) (lst2 := [(7, .int b0), (6, .int (nI k)), (5, .int (nI i)), (0, .ref b), (1, .ref (x_b G2 + 0)), (2, .ref (x_b G2 + 175)), (3, .ref (x_b G2 + 183)), (4, .ref (x_b G2 + 184))]) rfl ?_
  refine a_aload_n C2 dL_law_2579 5 rfl ?_
  refine a_callV C2 (k := 175) (As := []) (rest := []) (c_M_thrown l G2 d2) (cwV 0 C2.1.2.2.2.2 (gl_up gL_law_X12_thrown) rfl rfl rfl (by decide +kernel) ⟨Nat.le_of_ble_eq_true rfl, Nat.le_of_ble_eq_true rfl⟩) x_k175 (q := (RX12, TX12, 16)) rfl rfl rfl rfl (Nat.le_of_ble_eq_true rfl) dL_law_2580 ⟨hc, hs⟩ ?_
  refine a_iload C2 dL_law_2583 1 rfl ?_
  refine a_icmp_eq C2 dL_law_2585 (tgt := 2590) (by decide) (fun _ => ?_) (fun hn => absurd h12 hn)
  refine a_iload C2 dL_law_2590 1 rfl ?_
  have FIN : Ab G2 p l e room_1 s m args below meth c 9 (cells + 1) (slots + 6) Q 2607 [(7, .int b0), (6, .int (nI k)), (5, .int (nI i)), (0, .ref b), (1, .ref (x_b G2 + 0)), (2, .ref (x_b G2 + 175)), (3, .ref (x_b G2 + 183)), (4, .ref (x_b G2 + 184))] [] d2 := a_goto C2 dL_law_2607 (tgt := 3091) (by decide) (a_sub (lst2 := [(5, .int (nI i)), (0, .ref b), (1, .ref (x_b G2 + 0)), (2, .ref (x_b G2 + 175)), (3, .ref (x_b G2 + 183)), (4, .ref (x_b G2 + 184))]) [2, 3, 4, 5, 6, 7] rfl (K G2 d2 hb2 C2 hz))
  refine a_if_ne C2 dL_law_2592 (tgt := 2607) (by decide) (fun _ => FIN) (fun hk0 => ?_)
  have hk : k = 0 := by
    rcases Nat.eq_zero_or_pos k with y | y
    · exact y
    · exact absurd hk0 (nI_ne0 (by omega) (by omega))
  refine a_aload_n C2 dL_law_2595 6 rfl ?_
  refine a_iconst C2 dL_law_2596 (v := 0) (by decide) ?_
  refine a_lald C2 dL_law_2597 ?_
  refine a_iload C2 dL_law_2598 0 rfl ?_
  refine a_i2l C2 dL_law_2600 ?_
  refine a_lcmp C2 dL_law_2601 ?_
  exact a_if_eq C2 dL_law_2602 (tgt := 2607) (by decide) (fun _ => FIN) (fun hn => absurd ((lg_cmp_eq _ _).mpr (by rw [hl2 hk, hrb hk])) hn)
set_option maxHeartbeats 1000000 in
set_option maxRecDepth 100000 in
theorem law_46 (C : Cx G p s m args c code (wsL_law ++ ws_cl) RL 9) (hfl : l.stackTraces = false) (h : y_Z B d) (hB : B + 180 < 100000) (hX : va_X b L xs s s.heap) (hbl : b < s.heap.size) (hbA : ¬ x_A G b) (hL : L < 2000) (hi : i + 3 ≤ L) (hc : cells + 1 ≤ 603072) (hs : slots + 6 ≤ 7170154) (K : ∀ (G2 : xG) (d2 : xd), x_b G2 = x_b G → Cx G2 p s m args c code (wsL_law ++ ws_cl) RL 9 → y_Z (B + 180) d2 → Ab G2 p l e room_1 s m args below meth c 9 (cells + 1) (slots + 6) Q 3091 [(5, .int (nI i)), (0, .ref b), (1, .ref (x_b G2 + 0)), (2, .ref (x_b G2 + 175)), (3, .ref (x_b G2 + 183)), (4, .ref (x_b G2 + 184))] [] d2) : Ab G p l e room_1 s m args below meth c 9 cells slots Q 2610 [(5, .int (nI i)), (0, .ref b), (1, .ref (x_b G + 0)), (2, .ref (x_b G + 175)), (3, .ref (x_b G + 183)), (4, .ref (x_b G + 184))] [] d := by
  obtain ⟨k, r, d1, hk3, hcl, hm⟩ := y_S.two (s_writeLamp (l := l) hfl h hB (xs (i + 1)))
  refine a_aload_n C dL_law_2610 2 rfl ?_
  refine a_aload_n C dL_law_2611 1 rfl ?_
  refine a_iload C dL_law_2612 0 rfl ?_
  refine a_iconst C dL_law_2614 (v := 1) (by decide) ?_
  refine a_iadd C dL_law_2615 ?_
  refine a_sld C hX hbl hbA (i := i + 1) (nI_add i 1) (by omega) (by omega) dL_law_2616 ?_
  refine a_aload_n C dL_law_2617 4 rfl ?_
  refine a_callL (G2 := (if k = 0 then x_sl G r.toInt64 else G)) (g2_sl_b _ _ _) C (As := [.ref (x_b G + 0), .int (xs (i + 1)), .ref (x_b G + 183)]) (rest := []) (w_writeLamp l G d d1 _ k r hcl) (vx_cwSW 3 C.1.2.2.2.2 (gl_law gL_law_L_writeLamp) rfl rfl rfl (by decide +kernel) ⟨Nat.le_of_ble_eq_true rfl, Nat.le_of_ble_eq_true rfl⟩) rfl rfl (Nat.le_of_ble_eq_true rfl) dL_law_2618 ⟨hc, hs⟩ (g2_sl_D _ _ _) ?_
  have C2 := C.sl_if k r.toInt64
  have hb2 := g2_sl_b G r.toInt64 k
  have hl2 := g2_sl_v G r.toInt64 k
  generalize (if k = 0 then x_sl G r.toInt64 else G) = G2 at C2 hb2 hl2 ⊢
  have hbA2 : ¬ x_A G2 b := by
    unfold x_A
    rw [hb2]
    exact hbA
  rw [← hb2]
  obtain ⟨b0, d2, lv, hlv, hm2, h12, hrb, hz⟩ := hm G2
  refine a_istore C2 dL_law_2621 (by decide) (lst2 := [(6, .int (nI k)), (5, .int (nI i)), (0, .ref b), (1, .ref (x_b G2 + 0)), (2, .ref (x_b G2 + 175)), (3, .ref (x_b G2 + 183)), (4, .ref (x_b G2 + 184))]) rfl ?_
  refine a_aload_n C2 dL_law_2623 4 rfl ?_
  refine a_aload_n C2 dL_law_2624 2 rfl ?_
  refine a_iload C2 dL_law_2625 1 rfl ?_
  refine a_iconst C2 dL_law_2627 (v := 1) (by decide) ?_
  refine a_iadd C2 dL_law_2628 ?_
  refine a_sld C2 hX hbl hbA2 (i := i + 1) (nI_add i 1) (by omega) (by omega) dL_law_2629 ?_
  refine a_callV C2 (k := 175) (As := [.int (xs (i + 1))]) (rest := []) hm2 (cwV 1 C2.1.2.2.2.2 (gl_up gL_law_X12_writeLamp) rfl rfl rfl (by decide +kernel) ⟨by dsimp only [x_rm, room_1]; omega, by dsimp only [x_rm, room_1]; omega⟩) x_k175 (q := (RX12, TX12, 16)) rfl rfl rfl rfl (Nat.le_of_ble_eq_true rfl) dL_law_2630 ⟨hc, hs⟩ ?_
  refine a_istore C2 dL_law_2633 (by decide) (lst2 := [(7, .int b0), (6, .int (nI k)), (5, .int (nI i)), (0, .ref b), (1, .ref (x_b G2 + 0)), (2, .ref (x_b G2 + 175)), (3, .ref (x_b G2 + 183)), (4, .ref (x_b G2 + 184))]) rfl ?_
  refine a_aload_n C2 dL_law_2635 5 rfl ?_
  refine a_callV C2 (k := 175) (As := []) (rest := []) (c_M_thrown l G2 d2) (cwV 0 C2.1.2.2.2.2 (gl_up gL_law_X12_thrown) rfl rfl rfl (by decide +kernel) ⟨Nat.le_of_ble_eq_true rfl, Nat.le_of_ble_eq_true rfl⟩) x_k175 (q := (RX12, TX12, 16)) rfl rfl rfl rfl (Nat.le_of_ble_eq_true rfl) dL_law_2636 ⟨hc, hs⟩ ?_
  refine a_iload C2 dL_law_2639 1 rfl ?_
  refine a_icmp_eq C2 dL_law_2641 (tgt := 2646) (by decide) (fun _ => ?_) (fun hn => absurd h12 hn)
  refine a_iload C2 dL_law_2646 1 rfl ?_
  have FIN : Ab G2 p l e room_1 s m args below meth c 9 (cells + 1) (slots + 6) Q 2663 [(7, .int b0), (6, .int (nI k)), (5, .int (nI i)), (0, .ref b), (1, .ref (x_b G2 + 0)), (2, .ref (x_b G2 + 175)), (3, .ref (x_b G2 + 183)), (4, .ref (x_b G2 + 184))] [] d2 := a_goto C2 dL_law_2663 (tgt := 3091) (by decide) (a_sub (lst2 := [(5, .int (nI i)), (0, .ref b), (1, .ref (x_b G2 + 0)), (2, .ref (x_b G2 + 175)), (3, .ref (x_b G2 + 183)), (4, .ref (x_b G2 + 184))]) [2, 3, 4, 5, 6, 7] rfl (K G2 d2 hb2 C2 hz))
  refine a_if_ne C2 dL_law_2648 (tgt := 2663) (by decide) (fun _ => FIN) (fun hk0 => ?_)
  have hk : k = 0 := by
    rcases Nat.eq_zero_or_pos k with y | y
    · exact y
    · exact absurd hk0 (nI_ne0 (by omega) (by omega))
  refine a_aload_n C2 dL_law_2651 6 rfl ?_
  refine a_iconst C2 dL_law_2652 (v := 0) (by decide) ?_
  refine a_lald C2 dL_law_2653 ?_
  refine a_iload C2 dL_law_2654 0 rfl ?_
  refine a_i2l C2 dL_law_2656 ?_
  refine a_lcmp C2 dL_law_2657 ?_
  exact a_if_eq C2 dL_law_2658 (tgt := 2663) (by decide) (fun _ => FIN) (fun hn => absurd ((lg_cmp_eq _ _).mpr (by rw [hl2 hk, hrb hk])) hn)
set_option maxHeartbeats 1000000 in
set_option maxRecDepth 100000 in
theorem law_47 (C : Cx G p s m args c code (wsL_law ++ ws_cl) RL 9) (hfl : l.stackTraces = false) (h : y_Z B d) (hB : B + 180 < 100000) (hX : va_X b L xs s s.heap) (hbl : b < s.heap.size) (hbA : ¬ x_A G b) (hL : L < 2000) (hi : i + 3 ≤ L) (hc : cells + 1 ≤ 603072) (hs : slots + 6 ≤ 7170154) (K : ∀ (G2 : xG) (d2 : xd), x_b G2 = x_b G → Cx G2 p s m args c code (wsL_law ++ ws_cl) RL 9 → y_Z (B + 180) d2 → Ab G2 p l e room_1 s m args below meth c 9 (cells + 1) (slots + 6) Q 3091 [(5, .int (nI i)), (0, .ref b), (1, .ref (x_b G2 + 0)), (2, .ref (x_b G2 + 175)), (3, .ref (x_b G2 + 183)), (4, .ref (x_b G2 + 184))] [] d2) : Ab G p l e room_1 s m args below meth c 9 cells slots Q 2666 [(5, .int (nI i)), (0, .ref b), (1, .ref (x_b G + 0)), (2, .ref (x_b G + 175)), (3, .ref (x_b G + 183)), (4, .ref (x_b G + 184))] [] d := by
  obtain ⟨k, r, d1, hk3, hcl, hm⟩ := y_S.two (s_lineAt (l := l) hfl h hB (xs (i + 1)))
  refine a_aload_n C dL_law_2666 2 rfl ?_
  refine a_aload_n C dL_law_2667 1 rfl ?_
  refine a_iload C dL_law_2668 0 rfl ?_
  refine a_iconst C dL_law_2670 (v := 1) (by decide) ?_
  refine a_iadd C dL_law_2671 ?_
  refine a_sld C hX hbl hbA (i := i + 1) (nI_add i 1) (by omega) (by omega) dL_law_2672 ?_
  refine a_aload_n C dL_law_2673 4 rfl ?_
  refine a_callL (G2 := (if k = 0 then x_sl G r.toInt64 else G)) (g2_sl_b _ _ _) C (As := [.ref (x_b G + 0), .int (xs (i + 1)), .ref (x_b G + 183)]) (rest := []) (w_lineAt l G d d1 _ k r hcl) (vx_cwSW 3 C.1.2.2.2.2 (gl_law gL_law_L_lineAt) rfl rfl rfl (by decide +kernel) ⟨Nat.le_of_ble_eq_true rfl, Nat.le_of_ble_eq_true rfl⟩) rfl rfl (Nat.le_of_ble_eq_true rfl) dL_law_2674 ⟨hc, hs⟩ (g2_sl_D _ _ _) ?_
  have C2 := C.sl_if k r.toInt64
  have hb2 := g2_sl_b G r.toInt64 k
  have hl2 := g2_sl_v G r.toInt64 k
  generalize (if k = 0 then x_sl G r.toInt64 else G) = G2 at C2 hb2 hl2 ⊢
  have hbA2 : ¬ x_A G2 b := by
    unfold x_A
    rw [hb2]
    exact hbA
  rw [← hb2]
  obtain ⟨b0, d2, lv, hlv, hm2, h12, hrb, hz⟩ := hm G2
  refine a_istore C2 dL_law_2677 (by decide) (lst2 := [(6, .int (nI k)), (5, .int (nI i)), (0, .ref b), (1, .ref (x_b G2 + 0)), (2, .ref (x_b G2 + 175)), (3, .ref (x_b G2 + 183)), (4, .ref (x_b G2 + 184))]) rfl ?_
  refine a_aload_n C2 dL_law_2679 4 rfl ?_
  refine a_aload_n C2 dL_law_2680 2 rfl ?_
  refine a_iload C2 dL_law_2681 1 rfl ?_
  refine a_iconst C2 dL_law_2683 (v := 1) (by decide) ?_
  refine a_iadd C2 dL_law_2684 ?_
  refine a_sld C2 hX hbl hbA2 (i := i + 1) (nI_add i 1) (by omega) (by omega) dL_law_2685 ?_
  refine a_callV C2 (k := 175) (As := [.int (xs (i + 1))]) (rest := []) hm2 (cwV 1 C2.1.2.2.2.2 (gl_up gL_law_X12_lineAt) rfl rfl rfl (by decide +kernel) ⟨by dsimp only [x_rm, room_1]; omega, by dsimp only [x_rm, room_1]; omega⟩) x_k175 (q := (RX12, TX12, 16)) rfl rfl rfl rfl (Nat.le_of_ble_eq_true rfl) dL_law_2686 ⟨hc, hs⟩ ?_
  refine a_istore C2 dL_law_2689 (by decide) (lst2 := [(7, .int b0), (6, .int (nI k)), (5, .int (nI i)), (0, .ref b), (1, .ref (x_b G2 + 0)), (2, .ref (x_b G2 + 175)), (3, .ref (x_b G2 + 183)), (4, .ref (x_b G2 + 184))]) rfl ?_
  refine a_aload_n C2 dL_law_2691 5 rfl ?_
  refine a_callV C2 (k := 175) (As := []) (rest := []) (c_M_thrown l G2 d2) (cwV 0 C2.1.2.2.2.2 (gl_up gL_law_X12_thrown) rfl rfl rfl (by decide +kernel) ⟨Nat.le_of_ble_eq_true rfl, Nat.le_of_ble_eq_true rfl⟩) x_k175 (q := (RX12, TX12, 16)) rfl rfl rfl rfl (Nat.le_of_ble_eq_true rfl) dL_law_2692 ⟨hc, hs⟩ ?_
  refine a_iload C2 dL_law_2695 1 rfl ?_
  refine a_icmp_eq C2 dL_law_2697 (tgt := 2702) (by decide) (fun _ => ?_) (fun hn => absurd h12 hn)
  refine a_iload C2 dL_law_2702 1 rfl ?_
  have FIN : Ab G2 p l e room_1 s m args below meth c 9 (cells + 1) (slots + 6) Q 2719 [(7, .int b0), (6, .int (nI k)), (5, .int (nI i)), (0, .ref b), (1, .ref (x_b G2 + 0)), (2, .ref (x_b G2 + 175)), (3, .ref (x_b G2 + 183)), (4, .ref (x_b G2 + 184))] [] d2 := a_goto C2 dL_law_2719 (tgt := 3091) (by decide) (a_sub (lst2 := [(5, .int (nI i)), (0, .ref b), (1, .ref (x_b G2 + 0)), (2, .ref (x_b G2 + 175)), (3, .ref (x_b G2 + 183)), (4, .ref (x_b G2 + 184))]) [2, 3, 4, 5, 6, 7] rfl (K G2 d2 hb2 C2 hz))
  refine a_if_ne C2 dL_law_2704 (tgt := 2719) (by decide) (fun _ => FIN) (fun hk0 => ?_)
  have hk : k = 0 := by
    rcases Nat.eq_zero_or_pos k with y | y
    · exact y
    · exact absurd hk0 (nI_ne0 (by omega) (by omega))
  refine a_aload_n C2 dL_law_2707 6 rfl ?_
  refine a_iconst C2 dL_law_2708 (v := 0) (by decide) ?_
  refine a_lald C2 dL_law_2709 ?_
  refine a_iload C2 dL_law_2710 0 rfl ?_
  refine a_i2l C2 dL_law_2712 ?_
  refine a_lcmp C2 dL_law_2713 ?_
  exact a_if_eq C2 dL_law_2714 (tgt := 2719) (by decide) (fun _ => FIN) (fun hn => absurd ((lg_cmp_eq _ _).mpr (by rw [hl2 hk, hrb hk])) hn)
set_option maxHeartbeats 1000000 in
set_option maxRecDepth 100000 in
theorem law_48 (C : Cx G p s m args c code (wsL_law ++ ws_cl) RL 9) (hfl : l.stackTraces = false) (h : y_Z B d) (hB : B + 180 < 100000) (hX : va_X b L xs s s.heap) (hbl : b < s.heap.size) (hbA : ¬ x_A G b) (hL : L < 2000) (hi : i + 3 ≤ L) (hc : cells + 1 ≤ 603072) (hs : slots + 6 ≤ 7170154) (K : ∀ (G2 : xG) (d2 : xd), x_b G2 = x_b G → Cx G2 p s m args c code (wsL_law ++ ws_cl) RL 9 → y_Z (B + 180) d2 → Ab G2 p l e room_1 s m args below meth c 9 (cells + 1) (slots + 6) Q 3091 [(5, .int (nI i)), (0, .ref b), (1, .ref (x_b G2 + 0)), (2, .ref (x_b G2 + 175)), (3, .ref (x_b G2 + 183)), (4, .ref (x_b G2 + 184))] [] d2) : Ab G p l e room_1 s m args below meth c 9 cells slots Q 2722 [(5, .int (nI i)), (0, .ref b), (1, .ref (x_b G + 0)), (2, .ref (x_b G + 175)), (3, .ref (x_b G + 183)), (4, .ref (x_b G + 184))] [] d := by
  obtain ⟨k, r, b0, d1, d2, hk3, hcl, ⟨lv, hlv, hm⟩, h12, hrb, hz⟩ := s_meanOil (l := l) hfl h hB
  refine a_aload_n C dL_law_2722 2 rfl ?_
  refine a_aload C dL_law_2723 5 rfl ?_
  refine a_callL (G2 := (if k = 0 then x_su G r else G)) (g2_su_b _ _ _) C (As := [.ref (x_b G + 0), .ref (x_b G + 184)]) (rest := []) (w_meanOil l G d d1  k r hcl) (vx_cwSW 2 C.1.2.2.2.2 (gl_law gL_law_L_meanOil) rfl rfl rfl (by decide +kernel) ⟨Nat.le_of_ble_eq_true rfl, Nat.le_of_ble_eq_true rfl⟩) rfl rfl (Nat.le_of_ble_eq_true rfl) dL_law_2725 ⟨hc, hs⟩ (g2_su_D _ _ _) ?_
  have C2 := C.su_if k r
  have hb2 := g2_su_b G r k
  have hl2 := g2_su_v G r k
  generalize (if k = 0 then x_su G r else G) = G2 at C2 hb2 hl2 ⊢
  have hbA2 : ¬ x_A G2 b := by
    unfold x_A
    rw [hb2]
    exact hbA
  rw [← hb2]
  have hm2 := hm G2
  refine a_istore C2 dL_law_2728 (by decide) (lst2 := [(6, .int (nI k)), (5, .int (nI i)), (0, .ref b), (1, .ref (x_b G2 + 0)), (2, .ref (x_b G2 + 175)), (3, .ref (x_b G2 + 183)), (4, .ref (x_b G2 + 184))]) rfl ?_
  refine a_aload_n C2 dL_law_2730 4 rfl ?_
  refine a_callV C2 (k := 175) (As := []) (rest := []) hm2 (cwV 0 C2.1.2.2.2.2 (gl_up gL_law_X12_meanOil) rfl rfl rfl (by decide +kernel) ⟨by dsimp only [x_rm, room_1]; omega, by dsimp only [x_rm, room_1]; omega⟩) x_k175 (q := (RX12, TX12, 16)) rfl rfl rfl rfl (Nat.le_of_ble_eq_true rfl) dL_law_2731 ⟨hc, hs⟩ ?_
  refine a_dstore C2 dL_law_2734 (by decide) (lst2 := [(7, .double b0), (6, .int (nI k)), (5, .int (nI i)), (0, .ref b), (1, .ref (x_b G2 + 0)), (2, .ref (x_b G2 + 175)), (3, .ref (x_b G2 + 183)), (4, .ref (x_b G2 + 184))]) rfl ?_
  refine a_aload_n C2 dL_law_2736 5 rfl ?_
  refine a_callV C2 (k := 175) (As := []) (rest := []) (c_M_thrown l G2 d2) (cwV 0 C2.1.2.2.2.2 (gl_up gL_law_X12_thrown) rfl rfl rfl (by decide +kernel) ⟨Nat.le_of_ble_eq_true rfl, Nat.le_of_ble_eq_true rfl⟩) x_k175 (q := (RX12, TX12, 16)) rfl rfl rfl rfl (Nat.le_of_ble_eq_true rfl) dL_law_2737 ⟨hc, hs⟩ ?_
  refine a_iload C2 dL_law_2740 1 rfl ?_
  refine a_icmp_eq C2 dL_law_2742 (tgt := 2747) (by decide) (fun _ => ?_) (fun hn => absurd h12 hn)
  refine a_iload C2 dL_law_2747 1 rfl ?_
  have FIN : Ab G2 p l e room_1 s m args below meth c 9 (cells + 1) (slots + 6) Q 2784 [(7, .double b0), (6, .int (nI k)), (5, .int (nI i)), (0, .ref b), (1, .ref (x_b G2 + 0)), (2, .ref (x_b G2 + 175)), (3, .ref (x_b G2 + 183)), (4, .ref (x_b G2 + 184))] [] d2 := a_goto C2 dL_law_2784 (tgt := 3091) (by decide) (a_sub (lst2 := [(5, .int (nI i)), (0, .ref b), (1, .ref (x_b G2 + 0)), (2, .ref (x_b G2 + 175)), (3, .ref (x_b G2 + 183)), (4, .ref (x_b G2 + 184))]) [2, 3, 4, 5, 6, 7] rfl (K G2 d2 hb2 C2 hz))
  refine a_if_ne C2 dL_law_2749 (tgt := 2784) (by decide) (fun _ => FIN) (fun hk0 => ?_)
  have hk : k = 0 := by
    rcases Nat.eq_zero_or_pos k with y | y
    · exact y
    · exact absurd hk0 (nI_ne0 (by omega) (by omega))
  have hv : x_u G2 0 = b0 := (hl2 hk).trans (hrb hk).1
  refine a_aload C2 dL_law_2752 7 rfl ?_
  refine a_iconst C2 dL_law_2754 (v := 0) (by decide) ?_
  refine a_dald C2 dL_law_2755 ?_
  rw [hv]
  refine a_dload C2 dL_law_2756 0 rfl ?_
  refine a_dcmp C2 dL_law_2758 ?_
  refine a_if_eq C2 dL_law_2759 (tgt := 2784) (by decide) (fun _ => FIN) (fun hn => ?_)
  refine a_aload C2 dL_law_2762 7 rfl ?_
  refine a_iconst C2 dL_law_2764 (v := 0) (by decide) ?_
  refine a_dald C2 dL_law_2765 ?_
  rw [hv]
  refine a_aload C2 dL_law_2766 7 rfl ?_
  refine a_iconst C2 dL_law_2768 (v := 0) (by decide) ?_
  refine a_dald C2 dL_law_2769 ?_
  rw [hv]
  refine a_dcmp C2 dL_law_2770 ?_
  refine a_if_eq C2 dL_law_2771 (tgt := 2782) (by decide) (fun hy => absurd hy hn) (fun _ => ?_)
  refine a_dload C2 dL_law_2774 0 rfl ?_
  refine a_dload C2 dL_law_2776 0 rfl ?_
  refine a_dcmp C2 dL_law_2778 ?_
  exact a_if_ne C2 dL_law_2779 (tgt := 2784) (by decide) (fun _ => FIN) (fun hy => absurd hy hn)
set_option maxHeartbeats 1000000 in
set_option maxRecDepth 100000 in
theorem law_49 (C : Cx G p s m args c code (wsL_law ++ ws_cl) RL 9) (hfl : l.stackTraces = false) (h : y_Z B d) (hB : B + 180 < 100000) (hX : va_X b L xs s s.heap) (hbl : b < s.heap.size) (hbA : ¬ x_A G b) (hL : L < 2000) (hi : i + 3 ≤ L) (hc : cells + 1 ≤ 603072) (hs : slots + 6 ≤ 7170154) (K : ∀ (G2 : xG) (d2 : xd), x_b G2 = x_b G → Cx G2 p s m args c code (wsL_law ++ ws_cl) RL 9 → y_Z (B + 180) d2 → Ab G2 p l e room_1 s m args below meth c 9 (cells + 1) (slots + 6) Q 3091 [(5, .int (nI i)), (0, .ref b), (1, .ref (x_b G2 + 0)), (2, .ref (x_b G2 + 175)), (3, .ref (x_b G2 + 183)), (4, .ref (x_b G2 + 184))] [] d2) : Ab G p l e room_1 s m args below meth c 9 cells slots Q 2787 [(5, .int (nI i)), (0, .ref b), (1, .ref (x_b G + 0)), (2, .ref (x_b G + 175)), (3, .ref (x_b G + 183)), (4, .ref (x_b G + 184))] [] d := by
  obtain ⟨r, d1, d2, ⟨lv, hlv, hc1⟩, ⟨lv2, hlv2, hc2⟩, hz⟩ := s_isBalanced (l := l) h hB
  refine a_aload_n C dL_law_2787 2 rfl ?_
  refine a_callV C (k := 0) (As := []) (rest := []) (hc1 G) (cwV 0 C.1.2.2.2.2 (gl_up gL_law_X11_isBalanced) rfl rfl rfl (by decide +kernel) ⟨by dsimp only [x_rm, room_1]; omega, by dsimp only [x_rm, room_1]; omega⟩) x_k0 (q := (RX11, TX11, 13)) rfl rfl rfl rfl (Nat.le_of_ble_eq_true rfl) dL_law_2788 ⟨by show cells ≤ 603072; omega, by show slots ≤ 7170154; omega⟩ ?_
  refine a_aload_n C dL_law_2791 3 rfl ?_
  refine a_callV C (k := 175) (As := []) (rest := [.int r]) (hc2 G) (cwV 0 C.1.2.2.2.2 (gl_up gL_law_X12_isBalanced) rfl rfl rfl (by decide +kernel) ⟨by dsimp only [x_rm, room_1]; omega, by dsimp only [x_rm, room_1]; omega⟩) x_k175 (q := (RX12, TX12, 16)) rfl rfl rfl rfl (Nat.le_of_ble_eq_true rfl) dL_law_2792 ⟨by show cells ≤ 603072; omega, by show slots ≤ 7170154; omega⟩ ?_
  refine a_icmp_eq C dL_law_2795 (tgt := 3091) (by decide) (fun _ => ?_) (fun hn => absurd rfl hn)
  refine a_widen (by omega) (by omega) ?_
  exact K G d2 rfl C hz
set_option maxHeartbeats 1000000 in
set_option maxRecDepth 100000 in
theorem law_50 (C : Cx G p s m args c code (wsL_law ++ ws_cl) RL 9) (hfl : l.stackTraces = false) (h : y_Z B d) (hB : B + 180 < 100000) (hX : va_X b L xs s s.heap) (hbl : b < s.heap.size) (hbA : ¬ x_A G b) (hL : L < 2000) (hi : i + 3 ≤ L) (hc : cells + 1 ≤ 603072) (hs : slots + 6 ≤ 7170154) (K : ∀ (G2 : xG) (d2 : xd), x_b G2 = x_b G → Cx G2 p s m args c code (wsL_law ++ ws_cl) RL 9 → y_Z (B + 180) d2 → Ab G2 p l e room_1 s m args below meth c 9 (cells + 1) (slots + 6) Q 3091 [(5, .int (nI i)), (0, .ref b), (1, .ref (x_b G2 + 0)), (2, .ref (x_b G2 + 175)), (3, .ref (x_b G2 + 183)), (4, .ref (x_b G2 + 184))] [] d2) : Ab G p l e room_1 s m args below meth c 9 cells slots Q 2800 [(5, .int (nI i)), (0, .ref b), (1, .ref (x_b G + 0)), (2, .ref (x_b G + 175)), (3, .ref (x_b G + 183)), (4, .ref (x_b G + 184))] [] d := by
  obtain ⟨ch, hch, ech⟩ := x_i2c (xs (i + 1))
  obtain ⟨k, r, d1, hk3, hcl, hm⟩ := y_S.two (s_type (l := l) hfl h hB ch hch)
  refine a_aload_n C dL_law_2800 2 rfl ?_
  refine a_aload_n C dL_law_2801 1 rfl ?_
  refine a_iload C dL_law_2802 0 rfl ?_
  refine a_iconst C dL_law_2804 (v := 1) (by decide) ?_
  refine a_iadd C dL_law_2805 ?_
  refine a_sld C hX hbl hbA (i := i + 1) (nI_add i 1) (by omega) (by omega) dL_law_2806 ?_
  refine a_i2c C dL_law_2807 (v := nI ch) ech ?_
  refine a_aload_n C dL_law_2808 4 rfl ?_
  refine a_callL (G2 := (if k = 0 then x_sl G r.toInt64 else G)) (g2_sl_b _ _ _) C (As := [.ref (x_b G + 0), .int (nI ch), .ref (x_b G + 183)]) (rest := []) (w_type l G d d1 _ k r hcl) (vx_cwSW 3 C.1.2.2.2.2 (gl_law gL_law_L_type) rfl rfl rfl (by decide +kernel) ⟨Nat.le_of_ble_eq_true rfl, Nat.le_of_ble_eq_true rfl⟩) rfl rfl (Nat.le_of_ble_eq_true rfl) dL_law_2809 ⟨hc, hs⟩ (g2_sl_D _ _ _) ?_
  have C2 := C.sl_if k r.toInt64
  have hb2 := g2_sl_b G r.toInt64 k
  have hl2 := g2_sl_v G r.toInt64 k
  generalize (if k = 0 then x_sl G r.toInt64 else G) = G2 at C2 hb2 hl2 ⊢
  have hbA2 : ¬ x_A G2 b := by
    unfold x_A
    rw [hb2]
    exact hbA
  rw [← hb2]
  obtain ⟨b0, d2, lv, hlv, hm2, h12, hrb, hz⟩ := hm G2
  refine a_istore C2 dL_law_2812 (by decide) (lst2 := [(6, .int (nI k)), (5, .int (nI i)), (0, .ref b), (1, .ref (x_b G2 + 0)), (2, .ref (x_b G2 + 175)), (3, .ref (x_b G2 + 183)), (4, .ref (x_b G2 + 184))]) rfl ?_
  refine a_aload_n C2 dL_law_2814 4 rfl ?_
  refine a_aload_n C2 dL_law_2815 2 rfl ?_
  refine a_iload C2 dL_law_2816 1 rfl ?_
  refine a_iconst C2 dL_law_2818 (v := 1) (by decide) ?_
  refine a_iadd C2 dL_law_2819 ?_
  refine a_sld C2 hX hbl hbA2 (i := i + 1) (nI_add i 1) (by omega) (by omega) dL_law_2820 ?_
  refine a_i2c C2 dL_law_2821 (v := nI ch) ech ?_
  refine a_callV C2 (k := 175) (As := [.int (nI ch)]) (rest := []) hm2 (cwV 1 C2.1.2.2.2.2 (gl_up gL_law_X12_type) rfl rfl rfl (by decide +kernel) ⟨by dsimp only [x_rm, room_1]; omega, by dsimp only [x_rm, room_1]; omega⟩) x_k175 (q := (RX12, TX12, 16)) rfl rfl rfl rfl (Nat.le_of_ble_eq_true rfl) dL_law_2822 ⟨hc, hs⟩ ?_
  refine a_istore C2 dL_law_2825 (by decide) (lst2 := [(7, .int b0), (6, .int (nI k)), (5, .int (nI i)), (0, .ref b), (1, .ref (x_b G2 + 0)), (2, .ref (x_b G2 + 175)), (3, .ref (x_b G2 + 183)), (4, .ref (x_b G2 + 184))]) rfl ?_
  refine a_aload_n C2 dL_law_2827 5 rfl ?_
  refine a_callV C2 (k := 175) (As := []) (rest := []) (c_M_thrown l G2 d2) (cwV 0 C2.1.2.2.2.2 (gl_up gL_law_X12_thrown) rfl rfl rfl (by decide +kernel) ⟨Nat.le_of_ble_eq_true rfl, Nat.le_of_ble_eq_true rfl⟩) x_k175 (q := (RX12, TX12, 16)) rfl rfl rfl rfl (Nat.le_of_ble_eq_true rfl) dL_law_2828 ⟨hc, hs⟩ ?_
  refine a_iload C2 dL_law_2831 1 rfl ?_
  refine a_icmp_eq C2 dL_law_2833 (tgt := 2838) (by decide) (fun _ => ?_) (fun hn => absurd h12 hn)
  refine a_iload C2 dL_law_2838 1 rfl ?_
  have FIN : Ab G2 p l e room_1 s m args below meth c 9 (cells + 1) (slots + 6) Q 2855 [(7, .int b0), (6, .int (nI k)), (5, .int (nI i)), (0, .ref b), (1, .ref (x_b G2 + 0)), (2, .ref (x_b G2 + 175)), (3, .ref (x_b G2 + 183)), (4, .ref (x_b G2 + 184))] [] d2 := a_goto C2 dL_law_2855 (tgt := 3091) (by decide) (a_sub (lst2 := [(5, .int (nI i)), (0, .ref b), (1, .ref (x_b G2 + 0)), (2, .ref (x_b G2 + 175)), (3, .ref (x_b G2 + 183)), (4, .ref (x_b G2 + 184))]) [2, 3, 4, 5, 6, 7] rfl (K G2 d2 hb2 C2 hz))
  refine a_if_ne C2 dL_law_2840 (tgt := 2855) (by decide) (fun _ => FIN) (fun hk0 => ?_)
  have hk : k = 0 := by
    rcases Nat.eq_zero_or_pos k with y | y
    · exact y
    · exact absurd hk0 (nI_ne0 (by omega) (by omega))
  refine a_aload_n C2 dL_law_2843 6 rfl ?_
  refine a_iconst C2 dL_law_2844 (v := 0) (by decide) ?_
  refine a_lald C2 dL_law_2845 ?_
  refine a_iload C2 dL_law_2846 0 rfl ?_
  refine a_i2l C2 dL_law_2848 ?_
  refine a_lcmp C2 dL_law_2849 ?_
  exact a_if_eq C2 dL_law_2850 (tgt := 2855) (by decide) (fun _ => FIN) (fun hn => absurd ((lg_cmp_eq _ _).mpr (by rw [hl2 hk, hrb hk])) hn)
set_option maxHeartbeats 1000000 in
set_option maxRecDepth 100000 in
theorem law_51 (C : Cx G p s m args c code (wsL_law ++ ws_cl) RL 9) (hfl : l.stackTraces = false) (h : y_Z B d) (hB : B + 180 < 100000) (hX : va_X b L xs s s.heap) (hbl : b < s.heap.size) (hbA : ¬ x_A G b) (hL : L < 2000) (hi : i + 3 ≤ L) (hc : cells + 1 ≤ 603072) (hs : slots + 6 ≤ 7170154) (K : ∀ (G2 : xG) (d2 : xd), x_b G2 = x_b G → Cx G2 p s m args c code (wsL_law ++ ws_cl) RL 9 → y_Z (B + 180) d2 → Ab G2 p l e room_1 s m args below meth c 9 (cells + 1) (slots + 6) Q 3091 [(5, .int (nI i)), (0, .ref b), (1, .ref (x_b G2 + 0)), (2, .ref (x_b G2 + 175)), (3, .ref (x_b G2 + 183)), (4, .ref (x_b G2 + 184))] [] d2) : Ab G p l e room_1 s m args below meth c 9 cells slots Q 2858 [(5, .int (nI i)), (0, .ref b), (1, .ref (x_b G + 0)), (2, .ref (x_b G + 175)), (3, .ref (x_b G + 183)), (4, .ref (x_b G + 184))] [] d := by
  obtain ⟨k, r, d1, hk3, hcl, hm⟩ := s_execute (l := l) hfl h hB
  refine a_aload_n C dL_law_2858 2 rfl ?_
  refine a_aload_n C dL_law_2859 4 rfl ?_
  refine a_callL (G2 := (if k = 0 then x_sl G r.toInt64 else G)) (g2_sl_b _ _ _) C (As := [.ref (x_b G + 0), .ref (x_b G + 183)]) (rest := []) (w_execute l G d d1  k r hcl) (vx_cwSW 2 C.1.2.2.2.2 (gl_law gL_law_L_execute) rfl rfl rfl (by decide +kernel) ⟨Nat.le_of_ble_eq_true rfl, Nat.le_of_ble_eq_true rfl⟩) rfl rfl (Nat.le_of_ble_eq_true rfl) dL_law_2860 ⟨hc, hs⟩ (g2_sl_D _ _ _) ?_
  have C2 := C.sl_if k r.toInt64
  have hb2 := g2_sl_b G r.toInt64 k
  have hl2 := g2_sl_v G r.toInt64 k
  generalize (if k = 0 then x_sl G r.toInt64 else G) = G2 at C2 hb2 hl2 ⊢
  have hbA2 : ¬ x_A G2 b := by
    unfold x_A
    rw [hb2]
    exact hbA
  rw [← hb2]
  obtain ⟨b0, d2, lv, hlv, hm2, h12, hrb, hz⟩ := hm G2
  refine a_istore C2 dL_law_2863 (by decide) (lst2 := [(6, .int (nI k)), (5, .int (nI i)), (0, .ref b), (1, .ref (x_b G2 + 0)), (2, .ref (x_b G2 + 175)), (3, .ref (x_b G2 + 183)), (4, .ref (x_b G2 + 184))]) rfl ?_
  refine a_aload_n C2 dL_law_2865 4 rfl ?_
  refine a_callV C2 (k := 175) (As := []) (rest := []) hm2 (cwV 0 C2.1.2.2.2.2 (gl_up gL_law_X12_execute) rfl rfl rfl (by decide +kernel) ⟨by dsimp only [x_rm, room_1]; omega, by dsimp only [x_rm, room_1]; omega⟩) x_k175 (q := (RX12, TX12, 16)) rfl rfl rfl rfl (Nat.le_of_ble_eq_true rfl) dL_law_2866 ⟨hc, hs⟩ ?_
  refine a_istore C2 dL_law_2869 (by decide) (lst2 := [(7, .int b0), (6, .int (nI k)), (5, .int (nI i)), (0, .ref b), (1, .ref (x_b G2 + 0)), (2, .ref (x_b G2 + 175)), (3, .ref (x_b G2 + 183)), (4, .ref (x_b G2 + 184))]) rfl ?_
  refine a_aload_n C2 dL_law_2871 5 rfl ?_
  refine a_callV C2 (k := 175) (As := []) (rest := []) (c_M_thrown l G2 d2) (cwV 0 C2.1.2.2.2.2 (gl_up gL_law_X12_thrown) rfl rfl rfl (by decide +kernel) ⟨Nat.le_of_ble_eq_true rfl, Nat.le_of_ble_eq_true rfl⟩) x_k175 (q := (RX12, TX12, 16)) rfl rfl rfl rfl (Nat.le_of_ble_eq_true rfl) dL_law_2872 ⟨hc, hs⟩ ?_
  refine a_iload C2 dL_law_2875 1 rfl ?_
  refine a_icmp_eq C2 dL_law_2877 (tgt := 2882) (by decide) (fun _ => ?_) (fun hn => absurd h12 hn)
  refine a_iload C2 dL_law_2882 1 rfl ?_
  have FIN : Ab G2 p l e room_1 s m args below meth c 9 (cells + 1) (slots + 6) Q 2899 [(7, .int b0), (6, .int (nI k)), (5, .int (nI i)), (0, .ref b), (1, .ref (x_b G2 + 0)), (2, .ref (x_b G2 + 175)), (3, .ref (x_b G2 + 183)), (4, .ref (x_b G2 + 184))] [] d2 := a_goto C2 dL_law_2899 (tgt := 3091) (by decide) (a_sub (lst2 := [(5, .int (nI i)), (0, .ref b), (1, .ref (x_b G2 + 0)), (2, .ref (x_b G2 + 175)), (3, .ref (x_b G2 + 183)), (4, .ref (x_b G2 + 184))]) [2, 3, 4, 5, 6, 7] rfl (K G2 d2 hb2 C2 hz))
  refine a_if_ne C2 dL_law_2884 (tgt := 2899) (by decide) (fun _ => FIN) (fun hk0 => ?_)
  have hk : k = 0 := by
    rcases Nat.eq_zero_or_pos k with y | y
    · exact y
    · exact absurd hk0 (nI_ne0 (by omega) (by omega))
  refine a_aload_n C2 dL_law_2887 6 rfl ?_
  refine a_iconst C2 dL_law_2888 (v := 0) (by decide) ?_
  refine a_lald C2 dL_law_2889 ?_
  refine a_iload C2 dL_law_2890 0 rfl ?_
  refine a_i2l C2 dL_law_2892 ?_
  refine a_lcmp C2 dL_law_2893 ?_
  exact a_if_eq C2 dL_law_2894 (tgt := 2899) (by decide) (fun _ => FIN) (fun hn => absurd ((lg_cmp_eq _ _).mpr (by rw [hl2 hk, hrb hk])) hn)
set_option maxHeartbeats 1000000 in
set_option maxRecDepth 100000 in
theorem law_52 (C : Cx G p s m args c code (wsL_law ++ ws_cl) RL 9) (hfl : l.stackTraces = false) (h : y_Z B d) (hB : B + 180 < 100000) (hX : va_X b L xs s s.heap) (hbl : b < s.heap.size) (hbA : ¬ x_A G b) (hL : L < 2000) (hi : i + 3 ≤ L) (hc : cells + 1 ≤ 603072) (hs : slots + 6 ≤ 7170154) (K : ∀ (G2 : xG) (d2 : xd), x_b G2 = x_b G → Cx G2 p s m args c code (wsL_law ++ ws_cl) RL 9 → y_Z (B + 180) d2 → Ab G2 p l e room_1 s m args below meth c 9 (cells + 1) (slots + 6) Q 3091 [(5, .int (nI i)), (0, .ref b), (1, .ref (x_b G2 + 0)), (2, .ref (x_b G2 + 175)), (3, .ref (x_b G2 + 183)), (4, .ref (x_b G2 + 184))] [] d2) : Ab G p l e room_1 s m args below meth c 9 cells slots Q 2902 [(5, .int (nI i)), (0, .ref b), (1, .ref (x_b G + 0)), (2, .ref (x_b G + 175)), (3, .ref (x_b G + 183)), (4, .ref (x_b G + 184))] [] d := by
  obtain ⟨k, r, d1, hk3, hcl, hm⟩ := y_S.two (s_errorPosition (l := l) hfl h hB)
  refine a_aload_n C dL_law_2902 2 rfl ?_
  refine a_aload_n C dL_law_2903 4 rfl ?_
  refine a_callL (G2 := (if k = 0 then x_sl G r.toInt64 else G)) (g2_sl_b _ _ _) C (As := [.ref (x_b G + 0), .ref (x_b G + 183)]) (rest := []) (w_errorPosition l G d d1  k r hcl) (vx_cwSW 2 C.1.2.2.2.2 (gl_law gL_law_L_errorPosition) rfl rfl rfl (by decide +kernel) ⟨Nat.le_of_ble_eq_true rfl, Nat.le_of_ble_eq_true rfl⟩) rfl rfl (Nat.le_of_ble_eq_true rfl) dL_law_2904 ⟨hc, hs⟩ (g2_sl_D _ _ _) ?_
  have C2 := C.sl_if k r.toInt64
  have hb2 := g2_sl_b G r.toInt64 k
  have hl2 := g2_sl_v G r.toInt64 k
  generalize (if k = 0 then x_sl G r.toInt64 else G) = G2 at C2 hb2 hl2 ⊢
  have hbA2 : ¬ x_A G2 b := by
    unfold x_A
    rw [hb2]
    exact hbA
  rw [← hb2]
  obtain ⟨b0, d2, lv, hlv, hm2, h12, hrb, hz⟩ := hm G2
  refine a_istore C2 dL_law_2907 (by decide) (lst2 := [(6, .int (nI k)), (5, .int (nI i)), (0, .ref b), (1, .ref (x_b G2 + 0)), (2, .ref (x_b G2 + 175)), (3, .ref (x_b G2 + 183)), (4, .ref (x_b G2 + 184))]) rfl ?_
  refine a_aload_n C2 dL_law_2909 4 rfl ?_
  refine a_callV C2 (k := 175) (As := []) (rest := []) hm2 (cwV 0 C2.1.2.2.2.2 (gl_up gL_law_X12_errorPosition) rfl rfl rfl (by decide +kernel) ⟨by dsimp only [x_rm, room_1]; omega, by dsimp only [x_rm, room_1]; omega⟩) x_k175 (q := (RX12, TX12, 16)) rfl rfl rfl rfl (Nat.le_of_ble_eq_true rfl) dL_law_2910 ⟨hc, hs⟩ ?_
  refine a_istore C2 dL_law_2913 (by decide) (lst2 := [(7, .int b0), (6, .int (nI k)), (5, .int (nI i)), (0, .ref b), (1, .ref (x_b G2 + 0)), (2, .ref (x_b G2 + 175)), (3, .ref (x_b G2 + 183)), (4, .ref (x_b G2 + 184))]) rfl ?_
  refine a_aload_n C2 dL_law_2915 5 rfl ?_
  refine a_callV C2 (k := 175) (As := []) (rest := []) (c_M_thrown l G2 d2) (cwV 0 C2.1.2.2.2.2 (gl_up gL_law_X12_thrown) rfl rfl rfl (by decide +kernel) ⟨Nat.le_of_ble_eq_true rfl, Nat.le_of_ble_eq_true rfl⟩) x_k175 (q := (RX12, TX12, 16)) rfl rfl rfl rfl (Nat.le_of_ble_eq_true rfl) dL_law_2916 ⟨hc, hs⟩ ?_
  refine a_iload C2 dL_law_2919 1 rfl ?_
  refine a_icmp_eq C2 dL_law_2921 (tgt := 2926) (by decide) (fun _ => ?_) (fun hn => absurd h12 hn)
  refine a_iload C2 dL_law_2926 1 rfl ?_
  have FIN : Ab G2 p l e room_1 s m args below meth c 9 (cells + 1) (slots + 6) Q 2943 [(7, .int b0), (6, .int (nI k)), (5, .int (nI i)), (0, .ref b), (1, .ref (x_b G2 + 0)), (2, .ref (x_b G2 + 175)), (3, .ref (x_b G2 + 183)), (4, .ref (x_b G2 + 184))] [] d2 := a_goto C2 dL_law_2943 (tgt := 3091) (by decide) (a_sub (lst2 := [(5, .int (nI i)), (0, .ref b), (1, .ref (x_b G2 + 0)), (2, .ref (x_b G2 + 175)), (3, .ref (x_b G2 + 183)), (4, .ref (x_b G2 + 184))]) [2, 3, 4, 5, 6, 7] rfl (K G2 d2 hb2 C2 hz))
  refine a_if_ne C2 dL_law_2928 (tgt := 2943) (by decide) (fun _ => FIN) (fun hk0 => ?_)
  have hk : k = 0 := by
    rcases Nat.eq_zero_or_pos k with y | y
    · exact y
    · exact absurd hk0 (nI_ne0 (by omega) (by omega))
  refine a_aload_n C2 dL_law_2931 6 rfl ?_
  refine a_iconst C2 dL_law_2932 (v := 0) (by decide) ?_
  refine a_lald C2 dL_law_2933 ?_
  refine a_iload C2 dL_law_2934 0 rfl ?_
  refine a_i2l C2 dL_law_2936 ?_
  refine a_lcmp C2 dL_law_2937 ?_
  exact a_if_eq C2 dL_law_2938 (tgt := 2943) (by decide) (fun _ => FIN) (fun hn => absurd ((lg_cmp_eq _ _).mpr (by rw [hl2 hk, hrb hk])) hn)
set_option maxHeartbeats 1000000 in
set_option maxRecDepth 100000 in
theorem law_53 (C : Cx G p s m args c code (wsL_law ++ ws_cl) RL 9) (hfl : l.stackTraces = false) (h : y_Z B d) (hB : B + 180 < 100000) (hX : va_X b L xs s s.heap) (hbl : b < s.heap.size) (hbA : ¬ x_A G b) (hL : L < 2000) (hi : i + 3 ≤ L) (hc : cells + 1 ≤ 603072) (hs : slots + 6 ≤ 7170154) (K : ∀ (G2 : xG) (d2 : xd), x_b G2 = x_b G → Cx G2 p s m args c code (wsL_law ++ ws_cl) RL 9 → y_Z (B + 180) d2 → Ab G2 p l e room_1 s m args below meth c 9 (cells + 1) (slots + 6) Q 3091 [(5, .int (nI i)), (0, .ref b), (1, .ref (x_b G2 + 0)), (2, .ref (x_b G2 + 175)), (3, .ref (x_b G2 + 183)), (4, .ref (x_b G2 + 184))] [] d2) : Ab G p l e room_1 s m args below meth c 9 cells slots Q 2946 [(5, .int (nI i)), (0, .ref b), (1, .ref (x_b G + 0)), (2, .ref (x_b G + 175)), (3, .ref (x_b G + 183)), (4, .ref (x_b G + 184))] [] d := by
  obtain ⟨k, r, d1, hk3, hcl, hm⟩ := y_S.two (s_failedCommand (l := l) hfl h hB)
  refine a_aload_n C dL_law_2946 2 rfl ?_
  refine a_aload_n C dL_law_2947 4 rfl ?_
  refine a_callL (G2 := (if k = 0 then x_sl G r.toInt64 else G)) (g2_sl_b _ _ _) C (As := [.ref (x_b G + 0), .ref (x_b G + 183)]) (rest := []) (w_failedCommand l G d d1  k r hcl) (vx_cwSW 2 C.1.2.2.2.2 (gl_law gL_law_L_failedCommand) rfl rfl rfl (by decide +kernel) ⟨Nat.le_of_ble_eq_true rfl, Nat.le_of_ble_eq_true rfl⟩) rfl rfl (Nat.le_of_ble_eq_true rfl) dL_law_2948 ⟨hc, hs⟩ (g2_sl_D _ _ _) ?_
  have C2 := C.sl_if k r.toInt64
  have hb2 := g2_sl_b G r.toInt64 k
  have hl2 := g2_sl_v G r.toInt64 k
  generalize (if k = 0 then x_sl G r.toInt64 else G) = G2 at C2 hb2 hl2 ⊢
  have hbA2 : ¬ x_A G2 b := by
    unfold x_A
    rw [hb2]
    exact hbA
  rw [← hb2]
  obtain ⟨b0, d2, lv, hlv, hm2, h12, hrb, hz⟩ := hm G2
  refine a_istore C2 dL_law_2951 (by decide) (lst2 := [(6, .int (nI k)), (5, .int (nI i)), (0, .ref b), (1, .ref (x_b G2 + 0)), (2, .ref (x_b G2 + 175)), (3, .ref (x_b G2 + 183)), (4, .ref (x_b G2 + 184))]) rfl ?_
  refine a_aload_n C2 dL_law_2953 4 rfl ?_
  refine a_callV C2 (k := 175) (As := []) (rest := []) hm2 (cwV 0 C2.1.2.2.2.2 (gl_up gL_law_X12_failedCommand) rfl rfl rfl (by decide +kernel) ⟨by dsimp only [x_rm, room_1]; omega, by dsimp only [x_rm, room_1]; omega⟩) x_k175 (q := (RX12, TX12, 16)) rfl rfl rfl rfl (Nat.le_of_ble_eq_true rfl) dL_law_2954 ⟨hc, hs⟩ ?_
  refine a_istore C2 dL_law_2957 (by decide) (lst2 := [(7, .int b0), (6, .int (nI k)), (5, .int (nI i)), (0, .ref b), (1, .ref (x_b G2 + 0)), (2, .ref (x_b G2 + 175)), (3, .ref (x_b G2 + 183)), (4, .ref (x_b G2 + 184))]) rfl ?_
  refine a_aload_n C2 dL_law_2959 5 rfl ?_
  refine a_callV C2 (k := 175) (As := []) (rest := []) (c_M_thrown l G2 d2) (cwV 0 C2.1.2.2.2.2 (gl_up gL_law_X12_thrown) rfl rfl rfl (by decide +kernel) ⟨Nat.le_of_ble_eq_true rfl, Nat.le_of_ble_eq_true rfl⟩) x_k175 (q := (RX12, TX12, 16)) rfl rfl rfl rfl (Nat.le_of_ble_eq_true rfl) dL_law_2960 ⟨hc, hs⟩ ?_
  refine a_iload C2 dL_law_2963 1 rfl ?_
  refine a_icmp_eq C2 dL_law_2965 (tgt := 2970) (by decide) (fun _ => ?_) (fun hn => absurd h12 hn)
  refine a_iload C2 dL_law_2970 1 rfl ?_
  have FIN : Ab G2 p l e room_1 s m args below meth c 9 (cells + 1) (slots + 6) Q 2987 [(7, .int b0), (6, .int (nI k)), (5, .int (nI i)), (0, .ref b), (1, .ref (x_b G2 + 0)), (2, .ref (x_b G2 + 175)), (3, .ref (x_b G2 + 183)), (4, .ref (x_b G2 + 184))] [] d2 := a_goto C2 dL_law_2987 (tgt := 3091) (by decide) (a_sub (lst2 := [(5, .int (nI i)), (0, .ref b), (1, .ref (x_b G2 + 0)), (2, .ref (x_b G2 + 175)), (3, .ref (x_b G2 + 183)), (4, .ref (x_b G2 + 184))]) [2, 3, 4, 5, 6, 7] rfl (K G2 d2 hb2 C2 hz))
  refine a_if_ne C2 dL_law_2972 (tgt := 2987) (by decide) (fun _ => FIN) (fun hk0 => ?_)
  have hk : k = 0 := by
    rcases Nat.eq_zero_or_pos k with y | y
    · exact y
    · exact absurd hk0 (nI_ne0 (by omega) (by omega))
  refine a_aload_n C2 dL_law_2975 6 rfl ?_
  refine a_iconst C2 dL_law_2976 (v := 0) (by decide) ?_
  refine a_lald C2 dL_law_2977 ?_
  refine a_iload C2 dL_law_2978 0 rfl ?_
  refine a_i2l C2 dL_law_2980 ?_
  refine a_lcmp C2 dL_law_2981 ?_
  exact a_if_eq C2 dL_law_2982 (tgt := 2987) (by decide) (fun _ => FIN) (fun hn => absurd ((lg_cmp_eq _ _).mpr (by rw [hl2 hk, hrb hk])) hn)
set_option maxHeartbeats 1000000 in
set_option maxRecDepth 100000 in
theorem law_54 (C : Cx G p s m args c code (wsL_law ++ ws_cl) RL 9) (hfl : l.stackTraces = false) (h : y_Z B d) (hB : B + 180 < 100000) (hX : va_X b L xs s s.heap) (hbl : b < s.heap.size) (hbA : ¬ x_A G b) (hL : L < 2000) (hi : i + 3 ≤ L) (hc : cells + 1 ≤ 603072) (hs : slots + 6 ≤ 7170154) (K : ∀ (G2 : xG) (d2 : xd), x_b G2 = x_b G → Cx G2 p s m args c code (wsL_law ++ ws_cl) RL 9 → y_Z (B + 180) d2 → Ab G2 p l e room_1 s m args below meth c 9 (cells + 1) (slots + 6) Q 3091 [(5, .int (nI i)), (0, .ref b), (1, .ref (x_b G2 + 0)), (2, .ref (x_b G2 + 175)), (3, .ref (x_b G2 + 183)), (4, .ref (x_b G2 + 184))] [] d2) : Ab G p l e room_1 s m args below meth c 9 cells slots Q 2990 [(5, .int (nI i)), (0, .ref b), (1, .ref (x_b G + 0)), (2, .ref (x_b G + 175)), (3, .ref (x_b G + 183)), (4, .ref (x_b G + 184))] [] d := by
  obtain ⟨k, r, d1, hk3, hcl, hm⟩ := y_S.two (s_undo (l := l) hfl h hB)
  refine a_aload_n C dL_law_2990 2 rfl ?_
  refine a_aload_n C dL_law_2991 4 rfl ?_
  refine a_callL (G2 := (if k = 0 then x_sl G r.toInt64 else G)) (g2_sl_b _ _ _) C (As := [.ref (x_b G + 0), .ref (x_b G + 183)]) (rest := []) (w_undo l G d d1  k r hcl) (vx_cwSW 2 C.1.2.2.2.2 (gl_law gL_law_L_undo) rfl rfl rfl (by decide +kernel) ⟨Nat.le_of_ble_eq_true rfl, Nat.le_of_ble_eq_true rfl⟩) rfl rfl (Nat.le_of_ble_eq_true rfl) dL_law_2992 ⟨hc, hs⟩ (g2_sl_D _ _ _) ?_
  have C2 := C.sl_if k r.toInt64
  have hb2 := g2_sl_b G r.toInt64 k
  have hl2 := g2_sl_v G r.toInt64 k
  generalize (if k = 0 then x_sl G r.toInt64 else G) = G2 at C2 hb2 hl2 ⊢
  have hbA2 : ¬ x_A G2 b := by
    unfold x_A
    rw [hb2]
    exact hbA
  rw [← hb2]
  obtain ⟨b0, d2, lv, hlv, hm2, h12, hrb, hz⟩ := hm G2
  refine a_istore C2 dL_law_2995 (by decide) (lst2 := [(6, .int (nI k)), (5, .int (nI i)), (0, .ref b), (1, .ref (x_b G2 + 0)), (2, .ref (x_b G2 + 175)), (3, .ref (x_b G2 + 183)), (4, .ref (x_b G2 + 184))]) rfl ?_
  refine a_aload_n C2 dL_law_2997 4 rfl ?_
  refine a_callV C2 (k := 175) (As := []) (rest := []) hm2 (cwV 0 C2.1.2.2.2.2 (gl_up gL_law_X12_undo) rfl rfl rfl (by decide +kernel) ⟨by dsimp only [x_rm, room_1]; omega, by dsimp only [x_rm, room_1]; omega⟩) x_k175 (q := (RX12, TX12, 16)) rfl rfl rfl rfl (Nat.le_of_ble_eq_true rfl) dL_law_2998 ⟨hc, hs⟩ ?_
  refine a_istore C2 dL_law_3001 (by decide) (lst2 := [(7, .int b0), (6, .int (nI k)), (5, .int (nI i)), (0, .ref b), (1, .ref (x_b G2 + 0)), (2, .ref (x_b G2 + 175)), (3, .ref (x_b G2 + 183)), (4, .ref (x_b G2 + 184))]) rfl ?_
  refine a_aload_n C2 dL_law_3003 5 rfl ?_
  refine a_callV C2 (k := 175) (As := []) (rest := []) (c_M_thrown l G2 d2) (cwV 0 C2.1.2.2.2.2 (gl_up gL_law_X12_thrown) rfl rfl rfl (by decide +kernel) ⟨Nat.le_of_ble_eq_true rfl, Nat.le_of_ble_eq_true rfl⟩) x_k175 (q := (RX12, TX12, 16)) rfl rfl rfl rfl (Nat.le_of_ble_eq_true rfl) dL_law_3004 ⟨hc, hs⟩ ?_
  refine a_iload C2 dL_law_3007 1 rfl ?_
  refine a_icmp_eq C2 dL_law_3009 (tgt := 3014) (by decide) (fun _ => ?_) (fun hn => absurd h12 hn)
  refine a_iload C2 dL_law_3014 1 rfl ?_
  have FIN : Ab G2 p l e room_1 s m args below meth c 9 (cells + 1) (slots + 6) Q 3031 [(7, .int b0), (6, .int (nI k)), (5, .int (nI i)), (0, .ref b), (1, .ref (x_b G2 + 0)), (2, .ref (x_b G2 + 175)), (3, .ref (x_b G2 + 183)), (4, .ref (x_b G2 + 184))] [] d2 := a_goto C2 dL_law_3031 (tgt := 3091) (by decide) (a_sub (lst2 := [(5, .int (nI i)), (0, .ref b), (1, .ref (x_b G2 + 0)), (2, .ref (x_b G2 + 175)), (3, .ref (x_b G2 + 183)), (4, .ref (x_b G2 + 184))]) [2, 3, 4, 5, 6, 7] rfl (K G2 d2 hb2 C2 hz))
  refine a_if_ne C2 dL_law_3016 (tgt := 3031) (by decide) (fun _ => FIN) (fun hk0 => ?_)
  have hk : k = 0 := by
    rcases Nat.eq_zero_or_pos k with y | y
    · exact y
    · exact absurd hk0 (nI_ne0 (by omega) (by omega))
  refine a_aload_n C2 dL_law_3019 6 rfl ?_
  refine a_iconst C2 dL_law_3020 (v := 0) (by decide) ?_
  refine a_lald C2 dL_law_3021 ?_
  refine a_iload C2 dL_law_3022 0 rfl ?_
  refine a_i2l C2 dL_law_3024 ?_
  refine a_lcmp C2 dL_law_3025 ?_
  exact a_if_eq C2 dL_law_3026 (tgt := 3031) (by decide) (fun _ => FIN) (fun hn => absurd ((lg_cmp_eq _ _).mpr (by rw [hl2 hk, hrb hk])) hn)
set_option maxHeartbeats 1000000 in
set_option maxRecDepth 100000 in
theorem law_55 (C : Cx G p s m args c code (wsL_law ++ ws_cl) RL 9) (hfl : l.stackTraces = false) (h : y_Z B d) (hB : B + 180 < 100000) (hX : va_X b L xs s s.heap) (hbl : b < s.heap.size) (hbA : ¬ x_A G b) (hL : L < 2000) (hi : i + 3 ≤ L) (hc : cells + 1 ≤ 603072) (hs : slots + 6 ≤ 7170154) (K : ∀ (G2 : xG) (d2 : xd), x_b G2 = x_b G → Cx G2 p s m args c code (wsL_law ++ ws_cl) RL 9 → y_Z (B + 180) d2 → Ab G2 p l e room_1 s m args below meth c 9 (cells + 1) (slots + 6) Q 3091 [(5, .int (nI i)), (0, .ref b), (1, .ref (x_b G2 + 0)), (2, .ref (x_b G2 + 175)), (3, .ref (x_b G2 + 183)), (4, .ref (x_b G2 + 184))] [] d2) : Ab G p l e room_1 s m args below meth c 9 cells slots Q 3034 [(5, .int (nI i)), (0, .ref b), (1, .ref (x_b G + 0)), (2, .ref (x_b G + 175)), (3, .ref (x_b G + 183)), (4, .ref (x_b G + 184))] [] d := by
  obtain ⟨r, d1, d2, ⟨lv, hlv, hc1⟩, ⟨lv2, hlv2, hc2⟩, hz⟩ := s_save (l := l) h hB
  refine a_aload_n C dL_law_3034 2 rfl ?_
  refine a_callV C (k := 0) (As := []) (rest := []) (hc1 G) (cwV 0 C.1.2.2.2.2 (gl_up gL_law_X11_save) rfl rfl rfl (by decide +kernel) ⟨by dsimp only [x_rm, room_1]; omega, by dsimp only [x_rm, room_1]; omega⟩) x_k0 (q := (RX11, TX11, 13)) rfl rfl rfl rfl (Nat.le_of_ble_eq_true rfl) dL_law_3035 ⟨by show cells ≤ 603072; omega, by show slots ≤ 7170154; omega⟩ ?_
  refine a_aload_n C dL_law_3038 3 rfl ?_
  refine a_callV C (k := 175) (As := []) (rest := [.int r]) (hc2 G) (cwV 0 C.1.2.2.2.2 (gl_up gL_law_X12_save) rfl rfl rfl (by decide +kernel) ⟨by dsimp only [x_rm, room_1]; omega, by dsimp only [x_rm, room_1]; omega⟩) x_k175 (q := (RX12, TX12, 16)) rfl rfl rfl rfl (Nat.le_of_ble_eq_true rfl) dL_law_3039 ⟨by show cells ≤ 603072; omega, by show slots ≤ 7170154; omega⟩ ?_
  refine a_icmp_eq C dL_law_3042 (tgt := 3091) (by decide) (fun _ => ?_) (fun hn => absurd rfl hn)
  refine a_widen (by omega) (by omega) ?_
  exact K G d2 rfl C hz
set_option maxHeartbeats 1000000 in
set_option maxRecDepth 100000 in
theorem law_56 (C : Cx G p s m args c code (wsL_law ++ ws_cl) RL 9) (hfl : l.stackTraces = false) (h : y_Z B d) (hB : B + 180 < 100000) (hX : va_X b L xs s s.heap) (hbl : b < s.heap.size) (hbA : ¬ x_A G b) (hL : L < 2000) (hi : i + 3 ≤ L) (hc : cells + 1 ≤ 603072) (hs : slots + 6 ≤ 7170154) (K : ∀ (G2 : xG) (d2 : xd), x_b G2 = x_b G → Cx G2 p s m args c code (wsL_law ++ ws_cl) RL 9 → y_Z (B + 180) d2 → Ab G2 p l e room_1 s m args below meth c 9 (cells + 1) (slots + 6) Q 3091 [(5, .int (nI i)), (0, .ref b), (1, .ref (x_b G2 + 0)), (2, .ref (x_b G2 + 175)), (3, .ref (x_b G2 + 183)), (4, .ref (x_b G2 + 184))] [] d2) : Ab G p l e room_1 s m args below meth c 9 cells slots Q 3047 [(5, .int (nI i)), (0, .ref b), (1, .ref (x_b G + 0)), (2, .ref (x_b G + 175)), (3, .ref (x_b G + 183)), (4, .ref (x_b G + 184))] [] d := by
  obtain ⟨k, r, d1, hk3, hcl, hm⟩ := y_S.two (s_restore (l := l) hfl h hB)
  refine a_aload_n C dL_law_3047 2 rfl ?_
  refine a_aload_n C dL_law_3048 4 rfl ?_
  refine a_callL (G2 := (if k = 0 then x_sl G r.toInt64 else G)) (g2_sl_b _ _ _) C (As := [.ref (x_b G + 0), .ref (x_b G + 183)]) (rest := []) (w_restore l G d d1  k r hcl) (vx_cwSW 2 C.1.2.2.2.2 (gl_law gL_law_L_restore) rfl rfl rfl (by decide +kernel) ⟨Nat.le_of_ble_eq_true rfl, Nat.le_of_ble_eq_true rfl⟩) rfl rfl (Nat.le_of_ble_eq_true rfl) dL_law_3049 ⟨hc, hs⟩ (g2_sl_D _ _ _) ?_
  have C2 := C.sl_if k r.toInt64
  have hb2 := g2_sl_b G r.toInt64 k
  have hl2 := g2_sl_v G r.toInt64 k
  generalize (if k = 0 then x_sl G r.toInt64 else G) = G2 at C2 hb2 hl2 ⊢
  have hbA2 : ¬ x_A G2 b := by
    unfold x_A
    rw [hb2]
    exact hbA
  rw [← hb2]
  obtain ⟨b0, d2, lv, hlv, hm2, h12, hrb, hz⟩ := hm G2
  refine a_istore C2 dL_law_3052 (by decide) (lst2 := [(6, .int (nI k)), (5, .int (nI i)), (0, .ref b), (1, .ref (x_b G2 + 0)), (2, .ref (x_b G2 + 175)), (3, .ref (x_b G2 + 183)), (4, .ref (x_b G2 + 184))]) rfl ?_
  refine a_aload_n C2 dL_law_3054 4 rfl ?_
  refine a_callV C2 (k := 175) (As := []) (rest := []) hm2 (cwV 0 C2.1.2.2.2.2 (gl_up gL_law_X12_restore) rfl rfl rfl (by decide +kernel) ⟨by dsimp only [x_rm, room_1]; omega, by dsimp only [x_rm, room_1]; omega⟩) x_k175 (q := (RX12, TX12, 16)) rfl rfl rfl rfl (Nat.le_of_ble_eq_true rfl) dL_law_3055 ⟨hc, hs⟩ ?_
  refine a_istore C2 dL_law_3058 (by decide) (lst2 := [(7, .int b0), (6, .int (nI k)), (5, .int (nI i)), (0, .ref b), (1, .ref (x_b G2 + 0)), (2, .ref (x_b G2 + 175)), (3, .ref (x_b G2 + 183)), (4, .ref (x_b G2 + 184))]) rfl ?_
  refine a_aload_n C2 dL_law_3060 5 rfl ?_
  refine a_callV C2 (k := 175) (As := []) (rest := []) (c_M_thrown l G2 d2) (cwV 0 C2.1.2.2.2.2 (gl_up gL_law_X12_thrown) rfl rfl rfl (by decide +kernel) ⟨Nat.le_of_ble_eq_true rfl, Nat.le_of_ble_eq_true rfl⟩) x_k175 (q := (RX12, TX12, 16)) rfl rfl rfl rfl (Nat.le_of_ble_eq_true rfl) dL_law_3061 ⟨hc, hs⟩ ?_
  refine a_iload C2 dL_law_3064 1 rfl ?_
  refine a_icmp_eq C2 dL_law_3066 (tgt := 3071) (by decide) (fun _ => ?_) (fun hn => absurd h12 hn)
  refine a_iload C2 dL_law_3071 1 rfl ?_
  have FIN : Ab G2 p l e room_1 s m args below meth c 9 (cells + 1) (slots + 6) Q 3088 [(7, .int b0), (6, .int (nI k)), (5, .int (nI i)), (0, .ref b), (1, .ref (x_b G2 + 0)), (2, .ref (x_b G2 + 175)), (3, .ref (x_b G2 + 183)), (4, .ref (x_b G2 + 184))] [] d2 := a_goto C2 dL_law_3088 (tgt := 3091) (by decide) (a_sub (lst2 := [(5, .int (nI i)), (0, .ref b), (1, .ref (x_b G2 + 0)), (2, .ref (x_b G2 + 175)), (3, .ref (x_b G2 + 183)), (4, .ref (x_b G2 + 184))]) [2, 3, 4, 5, 6, 7] rfl (K G2 d2 hb2 C2 hz))
  refine a_if_ne C2 dL_law_3073 (tgt := 3088) (by decide) (fun _ => FIN) (fun hk0 => ?_)
  have hk : k = 0 := by
    rcases Nat.eq_zero_or_pos k with y | y
    · exact y
    · exact absurd hk0 (nI_ne0 (by omega) (by omega))
  refine a_aload_n C2 dL_law_3076 6 rfl ?_
  refine a_iconst C2 dL_law_3077 (v := 0) (by decide) ?_
  refine a_lald C2 dL_law_3078 ?_
  refine a_iload C2 dL_law_3079 0 rfl ?_
  refine a_i2l C2 dL_law_3081 ?_
  refine a_lcmp C2 dL_law_3082 ?_
  exact a_if_eq C2 dL_law_3083 (tgt := 3088) (by decide) (fun _ => FIN) (fun hn => absurd ((lg_cmp_eq _ _).mpr (by rw [hl2 hk, hrb hk])) hn)
end LCASES
