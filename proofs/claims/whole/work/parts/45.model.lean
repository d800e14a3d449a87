-- STAND-INS
theorem n : True := trivial
theorem i : True := trivial
theorem k : True := trivial
theorem q : True := trivial
theorem u : True := trivial
theorem v : True := trivial
theorem w : True := trivial
theorem j : True := trivial
theorem o : True := trivial
theorem a : True := trivial
theorem b : True := trivial
theorem y : True := trivial
theorem z : True := trivial
theorem r : True := trivial
theorem t : True := trivial
theorem f : True := trivial
theorem g : True := trivial
theorem o2 : True := trivial
theorem a2 : True := trivial
theorem hlt : True := trivial
theorem hltk : True := trivial
theorem hlt3 : True := trivial
theorem hlt4 : True := trivial
theorem hn : True := trivial
theorem hq : True := trivial
theorem hm : True := trivial
theorem hi : True := trivial
theorem hi2 : True := trivial
theorem hi3 : True := trivial
theorem hk : True := trivial
theorem hj : True := trivial
theorem hb : True := trivial
theorem hs : True := trivial
theorem hw : True := trivial
theorem hx : True := trivial
theorem hz : True := trivial
theorem hv : True := trivial
theorem hr : True := trivial
theorem hc : True := trivial
theorem hu : True := trivial
theorem hp : True := trivial
theorem hl : True := trivial
theorem hh : True := trivial
theorem e : True := trivial
theorem e9 : True := trivial
theorem sh : True := trivial
theorem a0 : True := trivial
theorem c9 : True := trivial
theorem k9 : True := trivial
theorem m9 : True := trivial
theorem mm : True := trivial
theorem ha : True := trivial
theorem ho : True := trivial
theorem hS : True := trivial
theorem ha0 : True := trivial
theorem hs9 : True := trivial
theorem hk0 : True := trivial
theorem hk1 : True := trivial
theorem hk9 : True := trivial
theorem hap : True := trivial
theorem hoo : True := trivial
theorem qh : True := trivial
theorem ex : True := trivial
theorem ih : True := trivial
theorem ihk : True := trivial
theorem ih1 : True := trivial
theorem ih2 : True := trivial
theorem ih3 : True := trivial
theorem ih4 : True := trivial
theorem ihj : True := trivial
theorem st : True := trivial
theorem lst : True := trivial
theorem args0 : True := trivial
theorem hcn : True := trivial
theorem hcir : True := trivial
theorem q8 : True := trivial
theorem z8 : True := trivial
theorem h0 : True := trivial
theorem h1 : True := trivial
theorem h2 : True := trivial
theorem h3 : True := trivial
theorem h4 : True := trivial
theorem h5 : True := trivial
theorem h7 : True := trivial
theorem h10 : True := trivial
theorem h11 : True := trivial
theorem h12 : True := trivial
theorem h13 : True := trivial
theorem h14 : True := trivial
theorem h15 : True := trivial
theorem h16 : True := trivial
theorem h17 : True := trivial
theorem h18 : True := trivial
theorem h19 : True := trivial
theorem h20 : True := trivial
theorem h21 : True := trivial
theorem h22 : True := trivial
theorem h23 : True := trivial
theorem h24 : True := trivial
theorem h25 : True := trivial
theorem h26 : True := trivial
theorem h27 : True := trivial
theorem h28 : True := trivial
theorem h29 : True := trivial
theorem h30 : True := trivial
theorem h31 : True := trivial
theorem h32 : True := trivial
theorem h33 : True := trivial
theorem h34 : True := trivial
theorem h35 : True := trivial
theorem h36 : True := trivial
theorem h37 : True := trivial
theorem h38 : True := trivial
theorem h39 : True := trivial
theorem h40 : True := trivial
theorem h41 : True := trivial
theorem h42 : True := trivial
theorem h43 : True := trivial
theorem h44 : True := trivial
theorem h45 : True := trivial
theorem h46 : True := trivial
theorem h47 : True := trivial
theorem h48 : True := trivial
theorem h49 : True := trivial
theorem h50 : True := trivial
theorem h51 : True := trivial
theorem h52 : True := trivial
theorem h53 : True := trivial
theorem h54 : True := trivial
theorem h55 : True := trivial
theorem h56 : True := trivial
theorem h57 : True := trivial
theorem h58 : True := trivial
theorem h59 : True := trivial
theorem h60 : True := trivial
theorem h61 : True := trivial
theorem h62 : True := trivial
theorem h63 : True := trivial
theorem h64 : True := trivial
theorem h65 : True := trivial
theorem h66 : True := trivial
theorem h67 : True := trivial
theorem h68 : True := trivial
theorem h69 : True := trivial
theorem h70 : True := trivial
theorem h71 : True := trivial
theorem h72 : True := trivial
theorem h73 : True := trivial
theorem h74 : True := trivial
theorem h75 : True := trivial
theorem h76 : True := trivial
theorem h77 : True := trivial
theorem h78 : True := trivial
theorem h79 : True := trivial
theorem h80 : True := trivial
theorem h81 : True := trivial
theorem h82 : True := trivial
theorem h83 : True := trivial
theorem h84 : True := trivial
theorem h85 : True := trivial
theorem h86 : True := trivial
theorem h87 : True := trivial
theorem h88 : True := trivial
theorem h89 : True := trivial
theorem h90 : True := trivial
theorem h91 : True := trivial
theorem h92 : True := trivial
theorem h93 : True := trivial
theorem h94 : True := trivial
theorem h95 : True := trivial
theorem h96 : True := trivial
theorem h97 : True := trivial
theorem h98 : True := trivial
theorem h99 : True := trivial
theorem h100 : True := trivial
theorem h101 : True := trivial
theorem h102 : True := trivial
theorem h103 : True := trivial
theorem h104 : True := trivial
theorem h105 : True := trivial
theorem h106 : True := trivial
theorem h107 : True := trivial
theorem h108 : True := trivial
theorem h109 : True := trivial
theorem h110 : True := trivial
theorem h111 : True := trivial
theorem h112 : True := trivial
theorem h113 : True := trivial
theorem h114 : True := trivial
theorem h115 : True := trivial
theorem h116 : True := trivial
theorem h117 : True := trivial
theorem h118 : True := trivial
theorem h119 : True := trivial
theorem h120 : True := trivial
theorem h121 : True := trivial
theorem h122 : True := trivial
theorem h123 : True := trivial
theorem h124 : True := trivial
theorem h125 : True := trivial
theorem h126 : True := trivial
theorem h127 : True := trivial
theorem h128 : True := trivial
theorem h129 : True := trivial
theorem h130 : True := trivial
theorem h131 : True := trivial
theorem h132 : True := trivial
theorem h133 : True := trivial
theorem h134 : True := trivial
theorem h135 : True := trivial
theorem h136 : True := trivial
theorem h137 : True := trivial
theorem h138 : True := trivial
theorem h139 : True := trivial
theorem h140 : True := trivial
theorem h141 : True := trivial
theorem h142 : True := trivial
theorem h143 : True := trivial
theorem h144 : True := trivial
theorem h145 : True := trivial
theorem h146 : True := trivial
theorem h147 : True := trivial
theorem h148 : True := trivial
theorem h149 : True := trivial
theorem h150 : True := trivial
theorem h151 : True := trivial
theorem h152 : True := trivial
theorem h153 : True := trivial
theorem h154 : True := trivial
theorem h155 : True := trivial
theorem h156 : True := trivial
theorem h157 : True := trivial
theorem h158 : True := trivial
theorem h159 : True := trivial
theorem h160 : True := trivial
theorem h161 : True := trivial
theorem h162 : True := trivial
theorem h163 : True := trivial
theorem h164 : True := trivial
theorem h165 : True := trivial
theorem h166 : True := trivial
theorem h167 : True := trivial
theorem h168 : True := trivial
theorem h169 : True := trivial
theorem h170 : True := trivial
theorem h171 : True := trivial
theorem h172 : True := trivial
theorem h173 : True := trivial
theorem h174 : True := trivial
theorem h175 : True := trivial
theorem h176 : True := trivial
theorem h177 : True := trivial
theorem h178 : True := trivial
theorem h179 : True := trivial
theorem h180 : True := trivial
theorem h181 : True := trivial
theorem h182 : True := trivial
theorem h183 : True := trivial
theorem h184 : True := trivial
theorem h185 : True := trivial
theorem h186 : True := trivial
theorem h187 : True := trivial
theorem h188 : True := trivial
theorem h189 : True := trivial
theorem h190 : True := trivial
theorem h191 : True := trivial
theorem h192 : True := trivial
theorem h193 : True := trivial
theorem h194 : True := trivial
theorem h195 : True := trivial
theorem h196 : True := trivial
theorem h197 : True := trivial
theorem h198 : True := trivial
theorem h199 : True := trivial
theorem L0 : True := trivial
theorem L1 : True := trivial
theorem L2 : True := trivial
theorem L3 : True := trivial
theorem L4 : True := trivial
theorem L5 : True := trivial
theorem L6 : True := trivial
theorem L7 : True := trivial
theorem L8 : True := trivial
theorem L9 : True := trivial
theorem L10 : True := trivial
theorem L11 : True := trivial
theorem L12 : True := trivial
theorem L13 : True := trivial
theorem L14 : True := trivial
theorem L15 : True := trivial
theorem L16 : True := trivial
theorem L17 : True := trivial
theorem L18 : True := trivial
theorem L19 : True := trivial
theorem L20 : True := trivial
theorem L21 : True := trivial
theorem L22 : True := trivial
theorem L23 : True := trivial
theorem L24 : True := trivial
theorem L25 : True := trivial
theorem L26 : True := trivial
theorem L27 : True := trivial
theorem L28 : True := trivial
theorem L29 : True := trivial
theorem L30 : True := trivial
theorem L31 : True := trivial
theorem L32 : True := trivial
theorem L33 : True := trivial
theorem L34 : True := trivial
theorem L35 : True := trivial
theorem L36 : True := trivial
theorem L37 : True := trivial
theorem L38 : True := trivial
theorem L39 : True := trivial
theorem L40 : True := trivial
theorem L41 : True := trivial
theorem L42 : True := trivial
theorem L43 : True := trivial
theorem L44 : True := trivial
theorem L45 : True := trivial
theorem L46 : True := trivial
theorem L47 : True := trivial
theorem L48 : True := trivial
theorem L49 : True := trivial
theorem L50 : True := trivial
theorem L51 : True := trivial
theorem L52 : True := trivial
theorem L53 : True := trivial
theorem L54 : True := trivial
theorem L55 : True := trivial
theorem L56 : True := trivial
theorem L57 : True := trivial
theorem L58 : True := trivial
theorem L59 : True := trivial
theorem L60 : True := trivial
theorem L61 : True := trivial
theorem L62 : True := trivial
theorem L63 : True := trivial
theorem L64 : True := trivial
theorem L65 : True := trivial
theorem L66 : True := trivial
theorem L67 : True := trivial
theorem L68 : True := trivial
theorem L69 : True := trivial
theorem L70 : True := trivial
theorem L71 : True := trivial
theorem L72 : True := trivial
theorem L73 : True := trivial
theorem L74 : True := trivial
theorem L75 : True := trivial
theorem L76 : True := trivial
theorem L77 : True := trivial
theorem L78 : True := trivial
theorem L79 : True := trivial
theorem L80 : True := trivial
theorem L81 : True := trivial
theorem L82 : True := trivial
theorem L83 : True := trivial
theorem L84 : True := trivial
theorem L85 : True := trivial
theorem L86 : True := trivial
theorem L87 : True := trivial
theorem L88 : True := trivial
theorem L89 : True := trivial
theorem L90 : True := trivial
theorem L91 : True := trivial
theorem L92 : True := trivial
theorem L93 : True := trivial
theorem L94 : True := trivial
theorem L95 : True := trivial
theorem L96 : True := trivial
theorem L97 : True := trivial
theorem L98 : True := trivial
theorem L99 : True := trivial
theorem L100 : True := trivial
theorem L101 : True := trivial
theorem L102 : True := trivial
theorem L103 : True := trivial
theorem L104 : True := trivial
theorem L105 : True := trivial
theorem L106 : True := trivial
theorem L107 : True := trivial
theorem L108 : True := trivial
theorem L109 : True := trivial
theorem L110 : True := trivial
theorem L111 : True := trivial
theorem L112 : True := trivial
theorem L113 : True := trivial
theorem L114 : True := trivial
theorem L115 : True := trivial
theorem L116 : True := trivial
theorem L117 : True := trivial
theorem L118 : True := trivial
theorem L119 : True := trivial
theorem L120 : True := trivial
theorem L121 : True := trivial
theorem L122 : True := trivial
theorem L123 : True := trivial
theorem L124 : True := trivial
theorem L125 : True := trivial
theorem L126 : True := trivial
theorem L127 : True := trivial
theorem L128 : True := trivial
theorem L129 : True := trivial
theorem L130 : True := trivial
theorem L131 : True := trivial
theorem L132 : True := trivial
theorem L133 : True := trivial
theorem L134 : True := trivial
theorem L135 : True := trivial
theorem L136 : True := trivial
theorem L137 : True := trivial
theorem L138 : True := trivial
theorem L139 : True := trivial
theorem L140 : True := trivial
theorem L141 : True := trivial
theorem L142 : True := trivial
theorem L143 : True := trivial
theorem L144 : True := trivial
theorem L145 : True := trivial
theorem L146 : True := trivial
theorem L147 : True := trivial
theorem L148 : True := trivial
theorem L149 : True := trivial
theorem L150 : True := trivial
theorem L151 : True := trivial
theorem L152 : True := trivial
theorem L153 : True := trivial
theorem L154 : True := trivial
theorem L155 : True := trivial
theorem L156 : True := trivial
theorem L157 : True := trivial
theorem L158 : True := trivial
theorem L159 : True := trivial
theorem L160 : True := trivial
theorem L161 : True := trivial
theorem L162 : True := trivial
theorem L163 : True := trivial
theorem L164 : True := trivial
theorem L165 : True := trivial
theorem L166 : True := trivial
theorem L167 : True := trivial
theorem L168 : True := trivial
theorem L169 : True := trivial
theorem L170 : True := trivial
theorem L171 : True := trivial
theorem L172 : True := trivial
theorem L173 : True := trivial
theorem L174 : True := trivial
theorem L175 : True := trivial
theorem L176 : True := trivial
theorem L177 : True := trivial
theorem L178 : True := trivial
theorem L179 : True := trivial
theorem L180 : True := trivial
theorem L181 : True := trivial
theorem L182 : True := trivial
theorem L183 : True := trivial
theorem L184 : True := trivial
theorem L185 : True := trivial
theorem L186 : True := trivial
theorem L187 : True := trivial
theorem L188 : True := trivial
theorem L189 : True := trivial
theorem L190 : True := trivial
theorem L191 : True := trivial
theorem L192 : True := trivial
theorem L193 : True := trivial
theorem L194 : True := trivial
theorem L195 : True := trivial
theorem L196 : True := trivial
theorem L197 : True := trivial
theorem L198 : True := trivial
theorem L199 : True := trivial
-- STAND-INS
set_option maxHeartbeats 1000000 in
set_option maxRecDepth 100000 in
theorem c_M_addLamp_1 (l : Launch) (G : xG) (d : xd) (a b : Int32) (hx : ¬ (0 ≤ a ∧ a ≤ 3) ∨ ¬ (1 ≤ b ∧ b ≤ 9)) : x_M G l yX12_addLamp wsX12_addLamp 4 0 0 [.ref (x_b G + 175), .int a, .int b] d (some (.int 0)) (g_kf (g_th (g_bg d) 1)) := by
  refine x_start (cc := cX12_addLamp) (maxL := 3) (ret := (some .int)) (own := RX12) (by decide) rfl rfl (Nat.le_of_ble_eq_true rfl) (lst := [(0, .ref (x_b G + 175)), (1, .int a), (2, .int b)]) rfl ?_
  intro p e s m args below meth c C hr hlocks
  refine a_aload_n C dX12_addLamp_0 0 rfl ?_
  refine a_callV C (k := 175) (As := []) (rest := []) (c_M_begin l G d) (cwV 0 C.1.2.2.2.2 gX12_addLamp_X12_begin rfl rfl rfl (by decide +kernel) ⟨Nat.le_of_ble_eq_true rfl, Nat.le_of_ble_eq_true rfl⟩) x_k175 (q := (RX12, TX12, 16)) rfl rfl rfl rfl (Nat.le_of_ble_eq_true rfl) dX12_addLamp_1 ⟨Nat.le_of_ble_eq_true rfl, Nat.le_of_ble_eq_true rfl⟩ ?_
  refine a_aload_n C dX12_addLamp_4 0 rfl ?_
  refine a_aload_n C dX12_addLamp_5 0 rfl ?_
  refine a_iload_n C dX12_addLamp_6 1 rfl ?_
  refine a_iload_n C dX12_addLamp_7 2 rfl ?_
  refine a_callV C (k := 175) (As := [.int a, .int b]) (rest := [.ref (x_b G + 175)]) (c_M_adds_1 l G (g_bg d) a b hx) (cwV 2 C.1.2.2.2.2 gX12_addLamp_X12_adds rfl rfl rfl (by decide +kernel) ⟨Nat.le_of_ble_eq_true rfl, Nat.le_of_ble_eq_true rfl⟩) x_k175 (q := (RX12, TX12, 16)) rfl rfl rfl rfl (Nat.le_of_ble_eq_true rfl) dX12_addLamp_8 ⟨Nat.le_of_ble_eq_true rfl, Nat.le_of_ble_eq_true rfl⟩ ?_
  refine a_callV C (k := 175) (As := [.int 0]) (rest := []) (c_M_kept_f l G (g_th (g_bg d) 1) 0 (show ¬ ((1 : Int32) = 0) by decide)) (cwV 1 C.1.2.2.2.2 gX12_addLamp_X12_kept rfl rfl rfl (by decide +kernel) ⟨Nat.le_of_ble_eq_true rfl, Nat.le_of_ble_eq_true rfl⟩) x_k175 (q := (RX12, TX12, 16)) rfl rfl rfl rfl (Nat.le_of_ble_eq_true rfl) dX12_addLamp_11 ⟨Nat.le_of_ble_eq_true rfl, Nat.le_of_ble_eq_true rfl⟩ ?_
  exact a_iret C hlocks hr dX12_addLamp_14 rfl rfl

set_option maxHeartbeats 1000000 in
set_option maxRecDepth 100000 in
theorem c_M_addLamp_2 (l : Launch) (G : xG) (d : xd) (a b : Int32) (ha : 0 ≤ a ∧ a ≤ 3) (hb : 1 ≤ b ∧ b ≤ 9) (hn : d 176 0 = 8) : x_M G l yX12_addLamp wsX12_addLamp 4 0 0 [.ref (x_b G + 175), .int a, .int b] d (some (.int 0)) (g_kf (g_th (g_bg d) 2)) := by
  refine x_start (cc := cX12_addLamp) (maxL := 3) (ret := (some .int)) (own := RX12) (by decide) rfl rfl (Nat.le_of_ble_eq_true rfl) (lst := [(0, .ref (x_b G + 175)), (1, .int a), (2, .int b)]) rfl ?_
  intro p e s m args below meth c C hr hlocks
  refine a_aload_n C dX12_addLamp_0 0 rfl ?_
  refine a_callV C (k := 175) (As := []) (rest := []) (c_M_begin l G d) (cwV 0 C.1.2.2.2.2 gX12_addLamp_X12_begin rfl rfl rfl (by decide +kernel) ⟨Nat.le_of_ble_eq_true rfl, Nat.le_of_ble_eq_true rfl⟩) x_k175 (q := (RX12, TX12, 16)) rfl rfl rfl rfl (Nat.le_of_ble_eq_true rfl) dX12_addLamp_1 ⟨Nat.le_of_ble_eq_true rfl, Nat.le_of_ble_eq_true rfl⟩ ?_
  refine a_aload_n C dX12_addLamp_4 0 rfl ?_
  refine a_aload_n C dX12_addLamp_5 0 rfl ?_
  refine a_iload_n C dX12_addLamp_6 1 rfl ?_
  refine a_iload_n C dX12_addLamp_7 2 rfl ?_
  refine a_callV C (k := 175) (As := [.int a, .int b]) (rest := [.ref (x_b G + 175)]) (c_M_adds_2 l G (g_bg d) a b ha hb hn) (cwV 2 C.1.2.2.2.2 gX12_addLamp_X12_adds rfl rfl rfl (by decide +kernel) ⟨Nat.le_of_ble_eq_true rfl, Nat.le_of_ble_eq_true rfl⟩) x_k175 (q := (RX12, TX12, 16)) rfl rfl rfl rfl (Nat.le_of_ble_eq_true rfl) dX12_addLamp_8 ⟨Nat.le_of_ble_eq_true rfl, Nat.le_of_ble_eq_true rfl⟩ ?_
  refine a_callV C (k := 175) (As := [.int 0]) (rest := []) (c_M_kept_f l G (g_th (g_bg d) 2) 0 (show ¬ ((2 : Int32) = 0) by decide)) (cwV 1 C.1.2.2.2.2 gX12_addLamp_X12_kept rfl rfl rfl (by decide +kernel) ⟨Nat.le_of_ble_eq_true rfl, Nat.le_of_ble_eq_true rfl⟩) x_k175 (q := (RX12, TX12, 16)) rfl rfl rfl rfl (Nat.le_of_ble_eq_true rfl) dX12_addLamp_11 ⟨Nat.le_of_ble_eq_true rfl, Nat.le_of_ble_eq_true rfl⟩ ?_
  exact a_iret C hlocks hr dX12_addLamp_14 rfl rfl

set_option maxHeartbeats 1000000 in
set_option maxRecDepth 100000 in
theorem c_M_addLamp (l : Launch) (G : xG) (d : xd) (c9 : Nat) (hc : d 175 3 = nI c9) (h9 : c9 ≤ 8) (a b : Int32) (n : Nat) (ha : 0 ≤ a ∧ a ≤ 3) (hb : 1 ≤ b ∧ b ≤ 9) (hn : d 176 0 = nI n) (h8 : n < 8) : x_M G l yX12_addLamp wsX12_addLamp 4 0 0 [.ref (x_b G + 175), .int a, .int b] d (some (.int (nI n))) (g_kp (g_ok (g_bg d) (g_adds (d 176) a b n)) c9) := by
  refine x_start (cc := cX12_addLamp) (maxL := 3) (ret := (some .int)) (own := RX12) (by decide) rfl rfl (Nat.le_of_ble_eq_true rfl) (lst := [(0, .ref (x_b G + 175)), (1, .int a), (2, .int b)]) rfl ?_
  intro p e s m args below meth c C hr hlocks
  refine a_aload_n C dX12_addLamp_0 0 rfl ?_
  refine a_callV C (k := 175) (As := []) (rest := []) (c_M_begin l G d) (cwV 0 C.1.2.2.2.2 gX12_addLamp_X12_begin rfl rfl rfl (by decide +kernel) ⟨Nat.le_of_ble_eq_true rfl, Nat.le_of_ble_eq_true rfl⟩) x_k175 (q := (RX12, TX12, 16)) rfl rfl rfl rfl (Nat.le_of_ble_eq_true rfl) dX12_addLamp_1 ⟨Nat.le_of_ble_eq_true rfl, Nat.le_of_ble_eq_true rfl⟩ ?_
  refine a_aload_n C dX12_addLamp_4 0 rfl ?_
  refine a_aload_n C dX12_addLamp_5 0 rfl ?_
  refine a_iload_n C dX12_addLamp_6 1 rfl ?_
  refine a_iload_n C dX12_addLamp_7 2 rfl ?_
  refine a_callV C (k := 175) (As := [.int a, .int b]) (rest := [.ref (x_b G + 175)]) (c_M_adds l G (g_bg d) a b n ha hb hn h8) (cwV 2 C.1.2.2.2.2 gX12_addLamp_X12_adds rfl rfl rfl (by decide +kernel) ⟨Nat.le_of_ble_eq_true rfl, Nat.le_of_ble_eq_true rfl⟩) x_k175 (q := (RX12, TX12, 16)) rfl rfl rfl rfl (Nat.le_of_ble_eq_true rfl) dX12_addLamp_8 ⟨Nat.le_of_ble_eq_true rfl, Nat.le_of_ble_eq_true rfl⟩ ?_
  refine a_callV C (k := 175) (As := [.int (nI n)]) (rest := []) (c_M_kept l G (g_ok (g_bg d) (g_adds (d 176) a b n)) ((nI n)) c9 rfl hc h9) (cwV 1 C.1.2.2.2.2 gX12_addLamp_X12_kept rfl rfl rfl (by decide +kernel) ⟨Nat.le_of_ble_eq_true rfl, Nat.le_of_ble_eq_true rfl⟩) x_k175 (q := (RX12, TX12, 16)) rfl rfl rfl rfl (Nat.le_of_ble_eq_true rfl) dX12_addLamp_11 ⟨Nat.le_of_ble_eq_true rfl, Nat.le_of_ble_eq_true rfl⟩ ?_
  exact a_iret C hlocks hr dX12_addLamp_14 rfl rfl

set_option maxHeartbeats 1000000 in
set_option maxRecDepth 100000 in
theorem c_M_removeLamp_1 (l : Launch) (G : xG) (d : xd) (x : Int32) (n : Nat) (hn : d 176 0 = nI n) (h8 : n ≤ 8) (hx : ¬ (0 ≤ x ∧ x < nI n)) : x_M G l yX12_removeLamp wsX12_removeLamp 4 0 0 [.ref (x_b G + 175), .int x] d (some (.int 0)) (g_kf (g_th (g_bg d) 1)) := by
  refine x_start (cc := cX12_removeLamp) (maxL := 2) (ret := (some .int)) (own := RX12) (by decide) rfl rfl (Nat.le_of_ble_eq_true rfl) (lst := [(0, .ref (x_b G + 175)), (1, .int x)]) rfl ?_
  intro p e s m args below meth c C hr hlocks
  refine a_aload_n C dX12_removeLamp_0 0 rfl ?_
  refine a_callV C (k := 175) (As := []) (rest := []) (c_M_begin l G d) (cwV 0 C.1.2.2.2.2 gX12_removeLamp_X12_begin rfl rfl rfl (by decide +kernel) ⟨Nat.le_of_ble_eq_true rfl, Nat.le_of_ble_eq_true rfl⟩) x_k175 (q := (RX12, TX12, 16)) rfl rfl rfl rfl (Nat.le_of_ble_eq_true rfl) dX12_removeLamp_1 ⟨Nat.le_of_ble_eq_true rfl, Nat.le_of_ble_eq_true rfl⟩ ?_
  refine a_aload_n C dX12_removeLamp_4 0 rfl ?_
  refine a_aload_n C dX12_removeLamp_5 0 rfl ?_
  refine a_iload_n C dX12_removeLamp_6 1 rfl ?_
  refine a_callV C (k := 175) (As := [.int x]) (rest := [.ref (x_b G + 175)]) (c_M_removes_1 l G (g_bg d) x n hn h8 hx) (cwV 1 C.1.2.2.2.2 gX12_removeLamp_X12_removes rfl rfl rfl (by decide +kernel) ⟨Nat.le_of_ble_eq_true rfl, Nat.le_of_ble_eq_true rfl⟩) x_k175 (q := (RX12, TX12, 16)) rfl rfl rfl rfl (Nat.le_of_ble_eq_true rfl) dX12_removeLamp_7 ⟨Nat.le_of_ble_eq_true rfl, Nat.le_of_ble_eq_true rfl⟩ ?_
  refine a_callV C (k := 175) (As := [.int 0]) (rest := []) (c_M_kept_f l G (g_th (g_bg d) 1) 0 (show ¬ ((1 : Int32) = 0) by decide)) (cwV 1 C.1.2.2.2.2 gX12_removeLamp_X12_kept rfl rfl rfl (by decide +kernel) ⟨Nat.le_of_ble_eq_true rfl, Nat.le_of_ble_eq_true rfl⟩) x_k175 (q := (RX12, TX12, 16)) rfl rfl rfl rfl (Nat.le_of_ble_eq_true rfl) dX12_removeLamp_10 ⟨Nat.le_of_ble_eq_true rfl, Nat.le_of_ble_eq_true rfl⟩ ?_
  exact a_iret C hlocks hr dX12_removeLamp_13 rfl rfl

set_option maxHeartbeats 1000000 in
set_option maxRecDepth 100000 in
theorem c_M_removeLamp_2 (l : Launch) (G : xG) (d : xd) (i n : Nat) (hn : d 176 0 = nI n) (h8 : n ≤ 8) (hi : i < n) (hp : 99 < d 176 4 + d 176 (46 + i)) : x_M G l yX12_removeLamp wsX12_removeLamp 4 0 0 [.ref (x_b G + 175), .int (nI i)] d (some (.int 0)) (g_kf (g_th (g_bg d) 2)) := by
  refine x_start (cc := cX12_removeLamp) (maxL := 2) (ret := (some .int)) (own := RX12) (by decide) rfl rfl (Nat.le_of_ble_eq_true rfl) (lst := [(0, .ref (x_b G + 175)), (1, .int (nI i))]) rfl ?_
  intro p e s m args below meth c C hr hlocks
  refine a_aload_n C dX12_removeLamp_0 0 rfl ?_
  refine a_callV C (k := 175) (As := []) (rest := []) (c_M_begin l G d) (cwV 0 C.1.2.2.2.2 gX12_removeLamp_X12_begin rfl rfl rfl (by decide +kernel) ⟨Nat.le_of_ble_eq_true rfl, Nat.le_of_ble_eq_true rfl⟩) x_k175 (q := (RX12, TX12, 16)) rfl rfl rfl rfl (Nat.le_of_ble_eq_true rfl) dX12_removeLamp_1 ⟨Nat.le_of_ble_eq_true rfl, Nat.le_of_ble_eq_true rfl⟩ ?_
  refine a_aload_n C dX12_removeLamp_4 0 rfl ?_
  refine a_aload_n C dX12_removeLamp_5 0 rfl ?_
  refine a_iload_n C dX12_removeLamp_6 1 rfl ?_
  refine a_callV C (k := 175) (As := [.int (nI i)]) (rest := [.ref (x_b G + 175)]) (c_M_removes_2 l G (g_bg d) i n hn h8 hi hp) (cwV 1 C.1.2.2.2.2 gX12_removeLamp_X12_removes rfl rfl rfl (by decide +kernel) ⟨Nat.le_of_ble_eq_true rfl, Nat.le_of_ble_eq_true rfl⟩) x_k175 (q := (RX12, TX12, 16)) rfl rfl rfl rfl (Nat.le_of_ble_eq_true rfl) dX12_removeLamp_7 ⟨Nat.le_of_ble_eq_true rfl, Nat.le_of_ble_eq_true rfl⟩ ?_
  refine a_callV C (k := 175) (As := [.int 0]) (rest := []) (c_M_kept_f l G (g_th (g_bg d) 2) 0 (show ¬ ((2 : Int32) = 0) by decide)) (cwV 1 C.1.2.2.2.2 gX12_removeLamp_X12_kept rfl rfl rfl (by decide +kernel) ⟨Nat.le_of_ble_eq_true rfl, Nat.le_of_ble_eq_true rfl⟩) x_k175 (q := (RX12, TX12, 16)) rfl rfl rfl rfl (Nat.le_of_ble_eq_true rfl) dX12_removeLamp_10 ⟨Nat.le_of_ble_eq_true rfl, Nat.le_of_ble_eq_true rfl⟩ ?_
  exact a_iret C hlocks hr dX12_removeLamp_13 rfl rfl

set_option maxHeartbeats 1000000 in
set_option maxRecDepth 100000 in
theorem c_M_removeLamp (l : Launch) (G : xG) (d : xd) (c9 : Nat) (hc : d 175 3 = nI c9) (h9 : c9 ≤ 8) (i n : Nat) (hn : d 176 0 = nI n) (h8 : n ≤ 8) (hi : i < n) (q : Nat) (hq : d 176 1 = nI q) (h6 : q ≤ 6) (hp : ¬ 99 < d 176 4 + d 176 (46 + i)) : x_M G l yX12_removeLamp wsX12_removeLamp 4 0 0 [.ref (x_b G + 175), .int (nI i)] d (some (.int (nI (n - 1)))) (g_kp (g_ok (g_bg d) (g_rmv (d 176) i n q)) c9) := by
  refine x_start (cc := cX12_removeLamp) (maxL := 2) (ret := (some .int)) (own := RX12) (by decide) rfl rfl (Nat.le_of_ble_eq_true rfl) (lst := [(0, .ref (x_b G + 175)), (1, .int (nI i))]) rfl ?_
  intro p e s m args below meth c C hr hlocks
  refine a_aload_n C dX12_removeLamp_0 0 rfl ?_
  refine a_callV C (k := 175) (As := []) (rest := []) (c_M_begin l G d) (cwV 0 C.1.2.2.2.2 gX12_removeLamp_X12_begin rfl rfl rfl (by decide +kernel) ⟨Nat.le_of_ble_eq_true rfl, Nat.le_of_ble_eq_true rfl⟩) x_k175 (q := (RX12, TX12, 16)) rfl rfl rfl rfl (Nat.le_of_ble_eq_true rfl) dX12_removeLamp_1 ⟨Nat.le_of_ble_eq_true rfl, Nat.le_of_ble_eq_true rfl⟩ ?_
  refine a_aload_n C dX12_removeLamp_4 0 rfl ?_
  refine a_aload_n C dX12_removeLamp_5 0 rfl ?_
  refine a_iload_n C dX12_removeLamp_6 1 rfl ?_
  refine a_callV C (k := 175) (As := [.int (nI i)]) (rest := [.ref (x_b G + 175)]) (c_M_removes l G (g_bg d) i n hn h8 hi q hq h6 hp) (cwV 1 C.1.2.2.2.2 gX12_removeLamp_X12_removes rfl rfl rfl (by decide +kernel) ⟨Nat.le_of_ble_eq_true rfl, Nat.le_of_ble_eq_true rfl⟩) x_k175 (q := (RX12, TX12, 16)) rfl rfl rfl rfl (Nat.le_of_ble_eq_true rfl) dX12_removeLamp_7 ⟨Nat.le_of_ble_eq_true rfl, Nat.le_of_ble_eq_true rfl⟩ ?_
  refine a_callV C (k := 175) (As := [.int (nI (n - 1))]) (rest := []) (c_M_kept l G (g_ok (g_bg d) (g_rmv (d 176) i n q)) ((nI (n - 1))) c9 rfl hc h9) (cwV 1 C.1.2.2.2.2 gX12_removeLamp_X12_kept rfl rfl rfl (by decide +kernel) ⟨Nat.le_of_ble_eq_true rfl, Nat.le_of_ble_eq_true rfl⟩) x_k175 (q := (RX12, TX12, 16)) rfl rfl rfl rfl (Nat.le_of_ble_eq_true rfl) dX12_removeLamp_10 ⟨Nat.le_of_ble_eq_true rfl, Nat.le_of_ble_eq_true rfl⟩ ?_
  exact a_iret C hlocks hr dX12_removeLamp_13 rfl rfl

set_option maxHeartbeats 1000000 in
set_option maxRecDepth 100000 in
theorem c_M_setShares_1 (l : Launch) (G : xG) (d : xd) (v : Int32) (x : Int32) (n : Nat) (hn : d 176 0 = nI n) (h8 : n ≤ 8) (hx : ¬ (0 ≤ x ∧ x < nI n)) : x_M G l yX12_setShares wsX12_setShares 4 0 0 [.ref (x_b G + 175), .int x, .int v] d (some (.int 0)) (g_kf (g_th (g_bg d) 1)) := by
  refine x_start (cc := cX12_setShares) (maxL := 3) (ret := (some .int)) (own := RX12) (by decide) rfl rfl (Nat.le_of_ble_eq_true rfl) (lst := [(0, .ref (x_b G + 175)), (1, .int x), (2, .int v)]) rfl ?_
  intro p e s m args below meth c C hr hlocks
  refine a_aload_n C dX12_setShares_0 0 rfl ?_
  refine a_callV C (k := 175) (As := []) (rest := []) (c_M_begin l G d) (cwV 0 C.1.2.2.2.2 gX12_setShares_X12_begin rfl rfl rfl (by decide +kernel) ⟨Nat.le_of_ble_eq_true rfl, Nat.le_of_ble_eq_true rfl⟩) x_k175 (q := (RX12, TX12, 16)) rfl rfl rfl rfl (Nat.le_of_ble_eq_true rfl) dX12_setShares_1 ⟨Nat.le_of_ble_eq_true rfl, Nat.le_of_ble_eq_true rfl⟩ ?_
  refine a_aload_n C dX12_setShares_4 0 rfl ?_
  refine a_aload_n C dX12_setShares_5 0 rfl ?_
  refine a_bipush C dX12_setShares_6 (v := 14) (by decide) ?_
  refine a_iload_n C dX12_setShares_8 1 rfl ?_
  refine a_iload_n C dX12_setShares_9 2 rfl ?_
  refine a_bipush C dX12_setShares_10 (v := 9) (by decide) ?_
  refine a_callV C (k := 175) (As := [.int 14, .int x, .int v, .int 9]) (rest := [.ref (x_b G + 175)]) (c_M_sets_1 l G (g_bg d) 14 v 9 x n hn h8 hx) (cwV 4 C.1.2.2.2.2 gX12_setShares_X12_sets rfl rfl rfl (by decide +kernel) ⟨Nat.le_of_ble_eq_true rfl, Nat.le_of_ble_eq_true rfl⟩) x_k175 (q := (RX12, TX12, 16)) rfl rfl rfl rfl (Nat.le_of_ble_eq_true rfl) dX12_setShares_12 ⟨Nat.le_of_ble_eq_true rfl, Nat.le_of_ble_eq_true rfl⟩ ?_
  refine a_callV C (k := 175) (As := [.int 0]) (rest := []) (c_M_kept_f l G (g_th (g_bg d) 1) 0 (show ¬ ((1 : Int32) = 0) by decide)) (cwV 1 C.1.2.2.2.2 gX12_setShares_X12_kept rfl rfl rfl (by decide +kernel) ⟨Nat.le_of_ble_eq_true rfl, Nat.le_of_ble_eq_true rfl⟩) x_k175 (q := (RX12, TX12, 16)) rfl rfl rfl rfl (Nat.le_of_ble_eq_true rfl) dX12_setShares_15 ⟨Nat.le_of_ble_eq_true rfl, Nat.le_of_ble_eq_true rfl⟩ ?_
  exact a_iret C hlocks hr dX12_setShares_18 rfl rfl

set_option maxHeartbeats 1000000 in
set_option maxRecDepth 100000 in
theorem c_M_setShares_2 (l : Launch) (G : xG) (d : xd) (v : Int32) (i n : Nat) (hn : d 176 0 = nI n) (h8 : n ≤ 8) (hi : i < n) (hv : ¬ (1 ≤ v ∧ v ≤ 9)) : x_M G l yX12_setShares wsX12_setShares 4 0 0 [.ref (x_b G + 175), .int (nI i), .int v] d (some (.int 0)) (g_kf (g_th (g_bg d) 2)) := by
  refine x_start (cc := cX12_setShares) (maxL := 3) (ret := (some .int)) (own := RX12) (by decide) rfl rfl (Nat.le_of_ble_eq_true rfl) (lst := [(0, .ref (x_b G + 175)), (1, .int (nI i)), (2, .int v)]) rfl ?_
  intro p e s m args below meth c C hr hlocks
  refine a_aload_n C dX12_setShares_0 0 rfl ?_
  refine a_callV C (k := 175) (As := []) (rest := []) (c_M_begin l G d) (cwV 0 C.1.2.2.2.2 gX12_setShares_X12_begin rfl rfl rfl (by decide +kernel) ⟨Nat.le_of_ble_eq_true rfl, Nat.le_of_ble_eq_true rfl⟩) x_k175 (q := (RX12, TX12, 16)) rfl rfl rfl rfl (Nat.le_of_ble_eq_true rfl) dX12_setShares_1 ⟨Nat.le_of_ble_eq_true rfl, Nat.le_of_ble_eq_true rfl⟩ ?_
  refine a_aload_n C dX12_setShares_4 0 rfl ?_
  refine a_aload_n C dX12_setShares_5 0 rfl ?_
  refine a_bipush C dX12_setShares_6 (v := 14) (by decide) ?_
  refine a_iload_n C dX12_setShares_8 1 rfl ?_
  refine a_iload_n C dX12_setShares_9 2 rfl ?_
  refine a_bipush C dX12_setShares_10 (v := 9) (by decide) ?_
  refine a_callV C (k := 175) (As := [.int 14, .int (nI i), .int v, .int 9]) (rest := [.ref (x_b G + 175)]) (c_M_sets_2 l G (g_bg d) 14 v 9 i n hn h8 hi hv) (cwV 4 C.1.2.2.2.2 gX12_setShares_X12_sets rfl rfl rfl (by decide +kernel) ⟨Nat.le_of_ble_eq_true rfl, Nat.le_of_ble_eq_true rfl⟩) x_k175 (q := (RX12, TX12, 16)) rfl rfl rfl rfl (Nat.le_of_ble_eq_true rfl) dX12_setShares_12 ⟨Nat.le_of_ble_eq_true rfl, Nat.le_of_ble_eq_true rfl⟩ ?_
  refine a_callV C (k := 175) (As := [.int 0]) (rest := []) (c_M_kept_f l G (g_th (g_bg d) 2) 0 (show ¬ ((2 : Int32) = 0) by decide)) (cwV 1 C.1.2.2.2.2 gX12_setShares_X12_kept rfl rfl rfl (by decide +kernel) ⟨Nat.le_of_ble_eq_true rfl, Nat.le_of_ble_eq_true rfl⟩) x_k175 (q := (RX12, TX12, 16)) rfl rfl rfl rfl (Nat.le_of_ble_eq_true rfl) dX12_setShares_15 ⟨Nat.le_of_ble_eq_true rfl, Nat.le_of_ble_eq_true rfl⟩ ?_
  exact a_iret C hlocks hr dX12_setShares_18 rfl rfl

set_option maxHeartbeats 1000000 in
set_option maxRecDepth 100000 in
theorem c_M_setShares (l : Launch) (G : xG) (d : xd) (c9 : Nat) (hc : d 175 3 = nI c9) (h9 : c9 ≤ 8) (v : Int32) (i n : Nat) (hn : d 176 0 = nI n) (h8 : n ≤ 8) (hi : i < n) (hv : 1 ≤ v ∧ v ≤ 9) : x_M G l yX12_setShares wsX12_setShares 4 0 0 [.ref (x_b G + 175), .int (nI i), .int v] d (some (.int (d 176 (14 + i)))) (g_kp (g_ok (g_bg d) (upd (d 176) (14 + i) v)) c9) := by
  refine x_start (cc := cX12_setShares) (maxL := 3) (ret := (some .int)) (own := RX12) (by decide) rfl rfl (Nat.le_of_ble_eq_true rfl) (lst := [(0, .ref (x_b G + 175)), (1, .int (nI i)), (2, .int v)]) rfl ?_
  intro p e s m args below meth c C hr hlocks
  refine a_aload_n C dX12_setShares_0 0 rfl ?_
  refine a_callV C (k := 175) (As := []) (rest := []) (c_M_begin l G d) (cwV 0 C.1.2.2.2.2 gX12_setShares_X12_begin rfl rfl rfl (by decide +kernel) ⟨Nat.le_of_ble_eq_true rfl, Nat.le_of_ble_eq_true rfl⟩) x_k175 (q := (RX12, TX12, 16)) rfl rfl rfl rfl (Nat.le_of_ble_eq_true rfl) dX12_setShares_1 ⟨Nat.le_of_ble_eq_true rfl, Nat.le_of_ble_eq_true rfl⟩ ?_
  refine a_aload_n C dX12_setShares_4 0 rfl ?_
  refine a_aload_n C dX12_setShares_5 0 rfl ?_
  refine a_bipush C dX12_setShares_6 (v := 14) (by decide) ?_
  refine a_iload_n C dX12_setShares_8 1 rfl ?_
  refine a_iload_n C dX12_setShares_9 2 rfl ?_
  refine a_bipush C dX12_setShares_10 (v := 9) (by decide) ?_
  refine a_callV C (k := 175) (As := [.int 14, .int (nI i), .int v, .int 9]) (rest := [.ref (x_b G + 175)]) (c_M_sets l G (g_bg d) 14 (by omega) v 9 i n hn h8 hi hv) (cwV 4 C.1.2.2.2.2 gX12_setShares_X12_sets rfl rfl rfl (by decide +kernel) ⟨Nat.le_of_ble_eq_true rfl, Nat.le_of_ble_eq_true rfl⟩) x_k175 (q := (RX12, TX12, 16)) rfl rfl rfl rfl (Nat.le_of_ble_eq_true rfl) dX12_setShares_12 ⟨Nat.le_of_ble_eq_true rfl, Nat.le_of_ble_eq_true rfl⟩ ?_
  refine a_callV C (k := 175) (As := [.int (d 176 (14 + i))]) (rest := []) (c_M_kept l G (g_ok (g_bg d) (upd (d 176) (14 + i) v)) ((d 176 (14 + i))) c9 rfl hc h9) (cwV 1 C.1.2.2.2.2 gX12_setShares_X12_kept rfl rfl rfl (by decide +kernel) ⟨Nat.le_of_ble_eq_true rfl, Nat.le_of_ble_eq_true rfl⟩) x_k175 (q := (RX12, TX12, 16)) rfl rfl rfl rfl (Nat.le_of_ble_eq_true rfl) dX12_setShares_15 ⟨Nat.le_of_ble_eq_true rfl, Nat.le_of_ble_eq_true rfl⟩ ?_
  exact a_iret C hlocks hr dX12_setShares_18 rfl rfl

set_option maxHeartbeats 1000000 in
set_option maxRecDepth 100000 in
theorem c_M_setBrightness_1 (l : Launch) (G : xG) (d : xd) (v : Int32) (x : Int32) (n : Nat) (hn : d 176 0 = nI n) (h8 : n ≤ 8) (hx : ¬ (0 ≤ x ∧ x < nI n)) : x_M G l yX12_setBrightness wsX12_setBrightness 4 0 0 [.ref (x_b G + 175), .int x, .int v] d (some (.int 0)) (g_kf (g_th (g_bg d) 1)) := by
  refine x_start (cc := cX12_setBrightness) (maxL := 3) (ret := (some .int)) (own := RX12) (by decide) rfl rfl (Nat.le_of_ble_eq_true rfl) (lst := [(0, .ref (x_b G + 175)), (1, .int x), (2, .int v)]) rfl ?_
  intro p e s m args below meth c C hr hlocks
  refine a_aload_n C dX12_setBrightness_0 0 rfl ?_
  refine a_callV C (k := 175) (As := []) (rest := []) (c_M_begin l G d) (cwV 0 C.1.2.2.2.2 gX12_setBrightness_X12_begin rfl rfl rfl (by decide +kernel) ⟨Nat.le_of_ble_eq_true rfl, Nat.le_of_ble_eq_true rfl⟩) x_k175 (q := (RX12, TX12, 16)) rfl rfl rfl rfl (Nat.le_of_ble_eq_true rfl) dX12_setBrightness_1 ⟨Nat.le_of_ble_eq_true rfl, Nat.le_of_ble_eq_true rfl⟩ ?_
  refine a_aload_n C dX12_setBrightness_4 0 rfl ?_
  refine a_aload_n C dX12_setBrightness_5 0 rfl ?_
  refine a_bipush C dX12_setBrightness_6 (v := 22) (by decide) ?_
  refine a_iload_n C dX12_setBrightness_8 1 rfl ?_
  refine a_iload_n C dX12_setBrightness_9 2 rfl ?_
  refine a_iconst C dX12_setBrightness_10 (v := 5) (by decide) ?_
  refine a_callV C (k := 175) (As := [.int 22, .int x, .int v, .int 5]) (rest := [.ref (x_b G + 175)]) (c_M_sets_1 l G (g_bg d) 22 v 5 x n hn h8 hx) (cwV 4 C.1.2.2.2.2 gX12_setBrightness_X12_sets rfl rfl rfl (by decide +kernel) ⟨Nat.le_of_ble_eq_true rfl, Nat.le_of_ble_eq_true rfl⟩) x_k175 (q := (RX12, TX12, 16)) rfl rfl rfl rfl (Nat.le_of_ble_eq_true rfl) dX12_setBrightness_11 ⟨Nat.le_of_ble_eq_true rfl, Nat.le_of_ble_eq_true rfl⟩ ?_
  refine a_callV C (k := 175) (As := [.int 0]) (rest := []) (c_M_kept_f l G (g_th (g_bg d) 1) 0 (show ¬ ((1 : Int32) = 0) by decide)) (cwV 1 C.1.2.2.2.2 gX12_setBrightness_X12_kept rfl rfl rfl (by decide +kernel) ⟨Nat.le_of_ble_eq_true rfl, Nat.le_of_ble_eq_true rfl⟩) x_k175 (q := (RX12, TX12, 16)) rfl rfl rfl rfl (Nat.le_of_ble_eq_true rfl) dX12_setBrightness_14 ⟨Nat.le_of_ble_eq_true rfl, Nat.le_of_ble_eq_true rfl⟩ ?_
  exact a_iret C hlocks hr dX12_setBrightness_17 rfl rfl

set_option maxHeartbeats 1000000 in
set_option maxRecDepth 100000 in
theorem c_M_setBrightness_2 (l : Launch) (G : xG) (d : xd) (v : Int32) (i n : Nat) (hn : d 176 0 = nI n) (h8 : n ≤ 8) (hi : i < n) (hv : ¬ (1 ≤ v ∧ v ≤ 5)) : x_M G l yX12_setBrightness wsX12_setBrightness 4 0 0 [.ref (x_b G + 175), .int (nI i), .int v] d (some (.int 0)) (g_kf (g_th (g_bg d) 2)) := by
  refine x_start (cc := cX12_setBrightness) (maxL := 3) (ret := (some .int)) (own := RX12) (by decide) rfl rfl (Nat.le_of_ble_eq_true rfl) (lst := [(0, .ref (x_b G + 175)), (1, .int (nI i)), (2, .int v)]) rfl ?_
  intro p e s m args below meth c C hr hlocks
  refine a_aload_n C dX12_setBrightness_0 0 rfl ?_
  refine a_callV C (k := 175) (As := []) (rest := []) (c_M_begin l G d) (cwV 0 C.1.2.2.2.2 gX12_setBrightness_X12_begin rfl rfl rfl (by decide +kernel) ⟨Nat.le_of_ble_eq_true rfl, Nat.le_of_ble_eq_true rfl⟩) x_k175 (q := (RX12, TX12, 16)) rfl rfl rfl rfl (Nat.le_of_ble_eq_true rfl) dX12_setBrightness_1 ⟨Nat.le_of_ble_eq_true rfl, Nat.le_of_ble_eq_true rfl⟩ ?_
  refine a_aload_n C dX12_setBrightness_4 0 rfl ?_
  refine a_aload_n C dX12_setBrightness_5 0 rfl ?_
  refine a_bipush C dX12_setBrightness_6 (v := 22) (by decide) ?_
  refine a_iload_n C dX12_setBrightness_8 1 rfl ?_
  refine a_iload_n C dX12_setBrightness_9 2 rfl ?_
  refine a_iconst C dX12_setBrightness_10 (v := 5) (by decide) ?_
  refine a_callV C (k := 175) (As := [.int 22, .int (nI i), .int v, .int 5]) (rest := [.ref (x_b G + 175)]) (c_M_sets_2 l G (g_bg d) 22 v 5 i n hn h8 hi hv) (cwV 4 C.1.2.2.2.2 gX12_setBrightness_X12_sets rfl rfl rfl (by decide +kernel) ⟨Nat.le_of_ble_eq_true rfl, Nat.le_of_ble_eq_true rfl⟩) x_k175 (q := (RX12, TX12, 16)) rfl rfl rfl rfl (Nat.le_of_ble_eq_true rfl) dX12_setBrightness_11 ⟨Nat.le_of_ble_eq_true rfl, Nat.le_of_ble_eq_true rfl⟩ ?_
  refine a_callV C (k := 175) (As := [.int 0]) (rest := []) (c_M_kept_f l G (g_th (g_bg d) 2) 0 (show ¬ ((2 : Int32) = 0) by decide)) (cwV 1 C.1.2.2.2.2 gX12_setBrightness_X12_kept rfl rfl rfl (by decide +kernel) ⟨Nat.le_of_ble_eq_true rfl, Nat.le_of_ble_eq_true rfl⟩) x_k175 (q := (RX12, TX12, 16)) rfl rfl rfl rfl (Nat.le_of_ble_eq_true rfl) dX12_setBrightness_14 ⟨Nat.le_of_ble_eq_true rfl, Nat.le_of_ble_eq_true rfl⟩ ?_
  exact a_iret C hlocks hr dX12_setBrightness_17 rfl rfl

set_option maxHeartbeats 1000000 in
set_option maxRecDepth 100000 in
theorem c_M_setBrightness (l : Launch) (G : xG) (d : xd) (c9 : Nat) (hc : d 175 3 = nI c9) (h9 : c9 ≤ 8) (v : Int32) (i n : Nat) (hn : d 176 0 = nI n) (h8 : n ≤ 8) (hi : i < n) (hv : 1 ≤ v ∧ v ≤ 5) : x_M G l yX12_setBrightness wsX12_setBrightness 4 0 0 [.ref (x_b G + 175), .int (nI i), .int v] d (some (.int (d 176 (22 + i)))) (g_kp (g_ok (g_bg d) (upd (d 176) (22 + i) v)) c9) := by
  refine x_start (cc := cX12_setBrightness) (maxL := 3) (ret := (some .int)) (own := RX12) (by decide) rfl rfl (Nat.le_of_ble_eq_true rfl) (lst := [(0, .ref (x_b G + 175)), (1, .int (nI i)), (2, .int v)]) rfl ?_
  intro p e s m args below meth c C hr hlocks
  refine a_aload_n C dX12_setBrightness_0 0 rfl ?_
  refine a_callV C (k := 175) (As := []) (rest := []) (c_M_begin l G d) (cwV 0 C.1.2.2.2.2 gX12_setBrightness_X12_begin rfl rfl rfl (by decide +kernel) ⟨Nat.le_of_ble_eq_true rfl, Nat.le_of_ble_eq_true rfl⟩) x_k175 (q := (RX12, TX12, 16)) rfl rfl rfl rfl (Nat.le_of_ble_eq_true rfl) dX12_setBrightness_1 ⟨Nat.le_of_ble_eq_true rfl, Nat.le_of_ble_eq_true rfl⟩ ?_
  refine a_aload_n C dX12_setBrightness_4 0 rfl ?_
  refine a_aload_n C dX12_setBrightness_5 0 rfl ?_
  refine a_bipush C dX12_setBrightness_6 (v := 22) (by decide) ?_
  refine a_iload_n C dX12_setBrightness_8 1 rfl ?_
  refine a_iload_n C dX12_setBrightness_9 2 rfl ?_
  refine a_iconst C dX12_setBrightness_10 (v := 5) (by decide) ?_
  refine a_callV C (k := 175) (As := [.int 22, .int (nI i), .int v, .int 5]) (rest := [.ref (x_b G + 175)]) (c_M_sets l G (g_bg d) 22 (by omega) v 5 i n hn h8 hi hv) (cwV 4 C.1.2.2.2.2 gX12_setBrightness_X12_sets rfl rfl rfl (by decide +kernel) ⟨Nat.le_of_ble_eq_true rfl, Nat.le_of_ble_eq_true rfl⟩) x_k175 (q := (RX12, TX12, 16)) rfl rfl rfl rfl (Nat.le_of_ble_eq_true rfl) dX12_setBrightness_11 ⟨Nat.le_of_ble_eq_true rfl, Nat.le_of_ble_eq_true rfl⟩ ?_
  refine a_callV C (k := 175) (As := [.int (d 176 (22 + i))]) (rest := []) (c_M_kept l G (g_ok (g_bg d) (upd (d 176) (22 + i) v)) ((d 176 (22 + i))) c9 rfl hc h9) (cwV 1 C.1.2.2.2.2 gX12_setBrightness_X12_kept rfl rfl rfl (by decide +kernel) ⟨Nat.le_of_ble_eq_true rfl, Nat.le_of_ble_eq_true rfl⟩) x_k175 (q := (RX12, TX12, 16)) rfl rfl rfl rfl (Nat.le_of_ble_eq_true rfl) dX12_setBrightness_14 ⟨Nat.le_of_ble_eq_true rfl, Nat.le_of_ble_eq_true rfl⟩ ?_
  exact a_iret C hlocks hr dX12_setBrightness_17 rfl rfl

theorem x_if01 (c : Prop) [Decidable c] : (if c then (0 : Int32) else 1) = x_bi (¬ c) := by
  unfold x_bi
  by_cases h : c
  · rw [if_pos h, if_neg (fun z => z h)]
  · rw [if_neg h, if_pos h]
set_option maxHeartbeats 1000000 in
set_option maxRecDepth 100000 in
theorem c_M_switchOn_1 (l : Launch) (G : xG) (d : xd) (x : Int32) (n : Nat) (hn : d 176 0 = nI n) (h8 : n ≤ 8) (hx : ¬ (0 ≤ x ∧ x < nI n)) : x_M G l yX12_switchOn wsX12_switchOn 4 0 0 [.ref (x_b G + 175), .int x] d (some (.int 0)) (g_kf (g_th (g_bg d) 1)) := by
  refine x_start (cc := cX12_switchOn) (maxL := 2) (ret := (some .boolean)) (own := RX12) (by decide) rfl rfl (Nat.le_of_ble_eq_true rfl) (lst := [(0, .ref (x_b G + 175)), (1, .int x)]) rfl ?_
  intro p e s m args below meth c C hr hlocks
  refine a_aload_n C dX12_switchOn_0 0 rfl ?_
  refine a_callV C (k := 175) (As := []) (rest := []) (c_M_begin l G d) (cwV 0 C.1.2.2.2.2 gX12_switchOn_X12_begin rfl rfl rfl (by decide +kernel) ⟨Nat.le_of_ble_eq_true rfl, Nat.le_of_ble_eq_true rfl⟩) x_k175 (q := (RX12, TX12, 16)) rfl rfl rfl rfl (Nat.le_of_ble_eq_true rfl) dX12_switchOn_1 ⟨Nat.le_of_ble_eq_true rfl, Nat.le_of_ble_eq_true rfl⟩ ?_
  refine a_aload_n C dX12_switchOn_4 0 rfl ?_
  refine a_aload_n C dX12_switchOn_5 0 rfl ?_
  refine a_iload_n C dX12_switchOn_6 1 rfl ?_
  refine a_iconst C dX12_switchOn_7 (v := 0) (by decide) ?_
  refine a_callV C (k := 175) (As := [.int x, .int 0]) (rest := [.ref (x_b G + 175)]) (c_M_switches_1 l G (g_bg d) 0 x n hn h8 hx) (cwV 2 C.1.2.2.2.2 gX12_switchOn_X12_switches rfl rfl rfl (by decide +kernel) ⟨Nat.le_of_ble_eq_true rfl, Nat.le_of_ble_eq_true rfl⟩) x_k175 (q := (RX12, TX12, 16)) rfl rfl rfl rfl (Nat.le_of_ble_eq_true rfl) dX12_switchOn_8 ⟨Nat.le_of_ble_eq_true rfl, Nat.le_of_ble_eq_true rfl⟩ ?_
  refine a_callV C (k := 175) (As := [.int 0]) (rest := []) (c_M_kept_f l G (g_th (g_bg d) 1) 0 (show ¬ ((1 : Int32) = 0) by decide)) (cwV 1 C.1.2.2.2.2 gX12_switchOn_X12_kept rfl rfl rfl (by decide +kernel) ⟨Nat.le_of_ble_eq_true rfl, Nat.le_of_ble_eq_true rfl⟩) x_k175 (q := (RX12, TX12, 16)) rfl rfl rfl rfl (Nat.le_of_ble_eq_true rfl) dX12_switchOn_11 ⟨Nat.le_of_ble_eq_true rfl, Nat.le_of_ble_eq_true rfl⟩ ?_
  refine a_iconst C dX12_switchOn_14 (v := 1) (by decide) ?_
  refine a_icmp_ne C dX12_switchOn_15 (tgt := 22) (by decide) (fun _ => ?_) (fun h => absurd h (by decide))
  refine a_iconst C dX12_switchOn_22 (v := 0) (by decide) ?_
  exact a_zret C hlocks hr rfl dX12_switchOn_23 rfl rfl

set_option maxHeartbeats 1000000 in
set_option maxRecDepth 100000 in
theorem c_M_switchOn (l : Launch) (G : xG) (d : xd) (c9 : Nat) (hc : d 175 3 = nI c9) (h9 : c9 ≤ 8) (i n : Nat) (hn : d 176 0 = nI n) (h8 : n ≤ 8) (hi : i < n) : x_M G l yX12_switchOn wsX12_switchOn 4 0 0 [.ref (x_b G + 175), .int (nI i)] d (some (.int (x_bi (¬ d 176 (30 + i) = 0)))) (g_kp (g_ok (g_bg d) (upd (d 176) (30 + i) 0)) c9) := by
  refine x_start (cc := cX12_switchOn) (maxL := 2) (ret := (some .boolean)) (own := RX12) (by decide) rfl rfl (Nat.le_of_ble_eq_true rfl) (lst := [(0, .ref (x_b G + 175)), (1, .int (nI i))]) rfl ?_
  intro p e s m args below meth c C hr hlocks
  refine a_aload_n C dX12_switchOn_0 0 rfl ?_
  refine a_callV C (k := 175) (As := []) (rest := []) (c_M_begin l G d) (cwV 0 C.1.2.2.2.2 gX12_switchOn_X12_begin rfl rfl rfl (by decide +kernel) ⟨Nat.le_of_ble_eq_true rfl, Nat.le_of_ble_eq_true rfl⟩) x_k175 (q := (RX12, TX12, 16)) rfl rfl rfl rfl (Nat.le_of_ble_eq_true rfl) dX12_switchOn_1 ⟨Nat.le_of_ble_eq_true rfl, Nat.le_of_ble_eq_true rfl⟩ ?_
  refine a_aload_n C dX12_switchOn_4 0 rfl ?_
  refine a_aload_n C dX12_switchOn_5 0 rfl ?_
  refine a_iload_n C dX12_switchOn_6 1 rfl ?_
  refine a_iconst C dX12_switchOn_7 (v := 0) (by decide) ?_
  refine a_callV C (k := 175) (As := [.int (nI i), .int 0]) (rest := [.ref (x_b G + 175)]) (c_M_switches l G (g_bg d) 0 i n hn h8 hi) (cwV 2 C.1.2.2.2.2 gX12_switchOn_X12_switches rfl rfl rfl (by decide +kernel) ⟨Nat.le_of_ble_eq_true rfl, Nat.le_of_ble_eq_true rfl⟩) x_k175 (q := (RX12, TX12, 16)) rfl rfl rfl rfl (Nat.le_of_ble_eq_true rfl) dX12_switchOn_8 ⟨Nat.le_of_ble_eq_true rfl, Nat.le_of_ble_eq_true rfl⟩ ?_
  refine a_top (y := x_bi (¬ d 176 (30 + i) = 0)) (x_if01 _) ?_
  refine a_callV C (k := 175) (As := [.int (x_bi (¬ d 176 (30 + i) = 0))]) (rest := []) (c_M_kept l G (g_ok (g_bg d) (upd (d 176) (30 + i) 0)) (x_bi (¬ d 176 (30 + i) = 0)) c9 rfl hc h9) (cwV 1 C.1.2.2.2.2 gX12_switchOn_X12_kept rfl rfl rfl (by decide +kernel) ⟨Nat.le_of_ble_eq_true rfl, Nat.le_of_ble_eq_true rfl⟩) x_k175 (q := (RX12, TX12, 16)) rfl rfl rfl rfl (Nat.le_of_ble_eq_true rfl) dX12_switchOn_11 ⟨Nat.le_of_ble_eq_true rfl, Nat.le_of_ble_eq_true rfl⟩ ?_
  refine a_iconst C dX12_switchOn_14 (v := 1) (by decide) ?_
  refine a_icmp_ne C dX12_switchOn_15 (tgt := 22) (by decide) (fun h15 => ?_) (fun h15 => ?_)
  · skip
    refine a_iconst C dX12_switchOn_22 (v := 0) (by decide) ?_
    exact a_zret C hlocks hr rfl dX12_switchOn_23 (x_bi_f (fun z => h15 (x_bi_t z))).symm rfl
  · skip
    refine a_iconst C dX12_switchOn_18 (v := 1) (by decide) ?_
    refine a_goto C dX12_switchOn_19 (tgt := 23) (by decide) ?_
    exact a_zret C hlocks hr rfl dX12_switchOn_23 (Decidable.not_not.mp (fun q => q h15)).symm rfl

set_option maxHeartbeats 1000000 in
set_option maxRecDepth 100000 in
theorem c_M_switchOff_1 (l : Launch) (G : xG) (d : xd) (x : Int32) (n : Nat) (hn : d 176 0 = nI n) (h8 : n ≤ 8) (hx : ¬ (0 ≤ x ∧ x < nI n)) : x_M G l yX12_switchOff wsX12_switchOff 4 0 0 [.ref (x_b G + 175), .int x] d (some (.int 0)) (g_kf (g_th (g_bg d) 1)) := by
  refine x_start (cc := cX12_switchOff) (maxL := 2) (ret := (some .boolean)) (own := RX12) (by decide) rfl rfl (Nat.le_of_ble_eq_true rfl) (lst := [(0, .ref (x_b G + 175)), (1, .int x)]) rfl ?_
  intro p e s m args below meth c C hr hlocks
  refine a_aload_n C dX12_switchOff_0 0 rfl ?_
  refine a_callV C (k := 175) (As := []) (rest := []) (c_M_begin l G d) (cwV 0 C.1.2.2.2.2 gX12_switchOff_X12_begin rfl rfl rfl (by decide +kernel) ⟨Nat.le_of_ble_eq_true rfl, Nat.le_of_ble_eq_true rfl⟩) x_k175 (q := (RX12, TX12, 16)) rfl rfl rfl rfl (Nat.le_of_ble_eq_true rfl) dX12_switchOff_1 ⟨Nat.le_of_ble_eq_true rfl, Nat.le_of_ble_eq_true rfl⟩ ?_
  refine a_aload_n C dX12_switchOff_4 0 rfl ?_
  refine a_aload_n C dX12_switchOff_5 0 rfl ?_
  refine a_iload_n C dX12_switchOff_6 1 rfl ?_
  refine a_iconst C dX12_switchOff_7 (v := 1) (by decide) ?_
  refine a_callV C (k := 175) (As := [.int x, .int 1]) (rest := [.ref (x_b G + 175)]) (c_M_switches_1 l G (g_bg d) 1 x n hn h8 hx) (cwV 2 C.1.2.2.2.2 gX12_switchOff_X12_switches rfl rfl rfl (by decide +kernel) ⟨Nat.le_of_ble_eq_true rfl, Nat.le_of_ble_eq_true rfl⟩) x_k175 (q := (RX12, TX12, 16)) rfl rfl rfl rfl (Nat.le_of_ble_eq_true rfl) dX12_switchOff_8 ⟨Nat.le_of_ble_eq_true rfl, Nat.le_of_ble_eq_true rfl⟩ ?_
  refine a_callV C (k := 175) (As := [.int 0]) (rest := []) (c_M_kept_f l G (g_th (g_bg d) 1) 0 (show ¬ ((1 : Int32) = 0) by decide)) (cwV 1 C.1.2.2.2.2 gX12_switchOff_X12_kept rfl rfl rfl (by decide +kernel) ⟨Nat.le_of_ble_eq_true rfl, Nat.le_of_ble_eq_true rfl⟩) x_k175 (q := (RX12, TX12, 16)) rfl rfl rfl rfl (Nat.le_of_ble_eq_true rfl) dX12_switchOff_11 ⟨Nat.le_of_ble_eq_true rfl, Nat.le_of_ble_eq_true rfl⟩ ?_
  refine a_iconst C dX12_switchOff_14 (v := 1) (by decide) ?_
  refine a_icmp_ne C dX12_switchOff_15 (tgt := 22) (by decide) (fun _ => ?_) (fun h => absurd h (by decide))
  refine a_iconst C dX12_switchOff_22 (v := 0) (by decide) ?_
  exact a_zret C hlocks hr rfl dX12_switchOff_23 rfl rfl

set_option maxHeartbeats 1000000 in
set_option maxRecDepth 100000 in
theorem c_M_switchOff (l : Launch) (G : xG) (d : xd) (c9 : Nat) (hc : d 175 3 = nI c9) (h9 : c9 ≤ 8) (i n : Nat) (hn : d 176 0 = nI n) (h8 : n ≤ 8) (hi : i < n) : x_M G l yX12_switchOff wsX12_switchOff 4 0 0 [.ref (x_b G + 175), .int (nI i)] d (some (.int (x_bi (¬ d 176 (30 + i) = 1)))) (g_kp (g_ok (g_bg d) (upd (d 176) (30 + i) 1)) c9) := by
  refine x_start (cc := cX12_switchOff) (maxL := 2) (ret := (some .boolean)) (own := RX12) (by decide) rfl rfl (Nat.le_of_ble_eq_true rfl) (lst := [(0, .ref (x_b G + 175)), (1, .int (nI i))]) rfl ?_
  intro p e s m args below meth c C hr hlocks
  refine a_aload_n C dX12_switchOff_0 0 rfl ?_
  refine a_callV C (k := 175) (As := []) (rest := []) (c_M_begin l G d) (cwV 0 C.1.2.2.2.2 gX12_switchOff_X12_begin rfl rfl rfl (by decide +kernel) ⟨Nat.le_of_ble_eq_true rfl, Nat.le_of_ble_eq_true rfl⟩) x_k175 (q := (RX12, TX12, 16)) rfl rfl rfl rfl (Nat.le_of_ble_eq_true rfl) dX12_switchOff_1 ⟨Nat.le_of_ble_eq_true rfl, Nat.le_of_ble_eq_true rfl⟩ ?_
  refine a_aload_n C dX12_switchOff_4 0 rfl ?_
  refine a_aload_n C dX12_switchOff_5 0 rfl ?_
  refine a_iload_n C dX12_switchOff_6 1 rfl ?_
  refine a_iconst C dX12_switchOff_7 (v := 1) (by decide) ?_
  refine a_callV C (k := 175) (As := [.int (nI i), .int 1]) (rest := [.ref (x_b G + 175)]) (c_M_switches l G (g_bg d) 1 i n hn h8 hi) (cwV 2 C.1.2.2.2.2 gX12_switchOff_X12_switches rfl rfl rfl (by decide +kernel) ⟨Nat.le_of_ble_eq_true rfl, Nat.le_of_ble_eq_true rfl⟩) x_k175 (q := (RX12, TX12, 16)) rfl rfl rfl rfl (Nat.le_of_ble_eq_true rfl) dX12_switchOff_8 ⟨Nat.le_of_ble_eq_true rfl, Nat.le_of_ble_eq_true rfl⟩ ?_
  refine a_top (y := x_bi (¬ d 176 (30 + i) = 1)) (x_if01 _) ?_
  refine a_callV C (k := 175) (As := [.int (x_bi (¬ d 176 (30 + i) = 1))]) (rest := []) (c_M_kept l G (g_ok (g_bg d) (upd (d 176) (30 + i) 1)) (x_bi (¬ d 176 (30 + i) = 1)) c9 rfl hc h9) (cwV 1 C.1.2.2.2.2 gX12_switchOff_X12_kept rfl rfl rfl (by decide +kernel) ⟨Nat.le_of_ble_eq_true rfl, Nat.le_of_ble_eq_true rfl⟩) x_k175 (q := (RX12, TX12, 16)) rfl rfl rfl rfl (Nat.le_of_ble_eq_true rfl) dX12_switchOff_11 ⟨Nat.le_of_ble_eq_true rfl, Nat.le_of_ble_eq_true rfl⟩ ?_
  refine a_iconst C dX12_switchOff_14 (v := 1) (by decide) ?_
  refine a_icmp_ne C dX12_switchOff_15 (tgt := 22) (by decide) (fun h15 => ?_) (fun h15 => ?_)
  · skip
    refine a_iconst C dX12_switchOff_22 (v := 0) (by decide) ?_
    exact a_zret C hlocks hr rfl dX12_switchOff_23 (x_bi_f (fun z => h15 (x_bi_t z))).symm rfl
  · skip
    refine a_iconst C dX12_switchOff_18 (v := 1) (by decide) ?_
    refine a_goto C dX12_switchOff_19 (tgt := 23) (by decide) ?_
    exact a_zret C hlocks hr rfl dX12_switchOff_23 (Decidable.not_not.mp (fun q => q h15)).symm rfl

set_option maxHeartbeats 1000000 in
set_option maxRecDepth 100000 in
theorem c_M_deliverOil_1 (l : Launch) (G : xG) (d : xd) (u : Int32) (hu : ¬ (1 ≤ u ∧ u ≤ 200)) : x_M G l yX12_deliverOil wsX12_deliverOil 6 0 0 [.ref (x_b G + 175), .int u] d (some (.int 0)) (g_kf (g_th (g_bg d) 1)) := by
  refine x_start (cc := cX12_deliverOil) (maxL := 2) (ret := (some .int)) (own := RX12) (by decide) rfl rfl (Nat.le_of_ble_eq_true rfl) (lst := [(0, .ref (x_b G + 175)), (1, .int u)]) rfl ?_
  intro p e s m args below meth c C hr hlocks
  refine a_aload_n C dX12_deliverOil_0 0 rfl ?_
  refine a_callV C (k := 175) (As := []) (rest := []) (c_M_begin l G d) (cwV 0 C.1.2.2.2.2 gX12_deliverOil_X12_begin rfl rfl rfl (by decide +kernel) ⟨Nat.le_of_ble_eq_true rfl, Nat.le_of_ble_eq_true rfl⟩) x_k175 (q := (RX12, TX12, 16)) rfl rfl rfl rfl (Nat.le_of_ble_eq_true rfl) dX12_deliverOil_1 ⟨Nat.le_of_ble_eq_true rfl, Nat.le_of_ble_eq_true rfl⟩ ?_
  refine a_aload_n C dX12_deliverOil_4 0 rfl ?_
  refine a_aload_n C dX12_deliverOil_5 0 rfl ?_
  refine a_iload_n C dX12_deliverOil_6 1 rfl ?_
  refine a_callV C (k := 175) (As := [.int u]) (rest := [.ref (x_b G + 175)]) (c_M_delivers_1 l G (g_bg d) u hu) (cwV 1 C.1.2.2.2.2 gX12_deliverOil_X12_delivers rfl rfl rfl (by decide +kernel) ⟨Nat.le_of_ble_eq_true rfl, Nat.le_of_ble_eq_true rfl⟩) x_k175 (q := (RX12, TX12, 16)) rfl rfl rfl rfl (Nat.le_of_ble_eq_true rfl) dX12_deliverOil_7 ⟨Nat.le_of_ble_eq_true rfl, Nat.le_of_ble_eq_true rfl⟩ ?_
  refine a_callV C (k := 175) (As := [.int 0]) (rest := []) (c_M_kept_f l G (g_th (g_bg d) 1) 0 (show ¬ ((1 : Int32) = 0) by decide)) (cwV 1 C.1.2.2.2.2 gX12_deliverOil_X12_kept rfl rfl rfl (by decide +kernel) ⟨Nat.le_of_ble_eq_true rfl, Nat.le_of_ble_eq_true rfl⟩) x_k175 (q := (RX12, TX12, 16)) rfl rfl rfl rfl (Nat.le_of_ble_eq_true rfl) dX12_deliverOil_10 ⟨Nat.le_of_ble_eq_true rfl, Nat.le_of_ble_eq_true rfl⟩ ?_
  exact a_iret C hlocks hr dX12_deliverOil_13 rfl rfl

set_option maxHeartbeats 1000000 in
set_option maxRecDepth 100000 in
theorem c_M_deliverOil_2 (l : Launch) (G : xG) (d : xd) (u : Int32) (hu : 1 ≤ u ∧ u ≤ 200) (hn : d 176 0 = 0) : x_M G l yX12_deliverOil wsX12_deliverOil 6 0 0 [.ref (x_b G + 175), .int u] d (some (.int 0)) (g_kf (g_th (g_bg d) 2)) := by
  refine x_start (cc := cX12_deliverOil) (maxL := 2) (ret := (some .int)) (own := RX12) (by decide) rfl rfl (Nat.le_of_ble_eq_true rfl) (lst := [(0, .ref (x_b G + 175)), (1, .int u)]) rfl ?_
  intro p e s m args below meth c C hr hlocks
  refine a_aload_n C dX12_deliverOil_0 0 rfl ?_
  refine a_callV C (k := 175) (As := []) (rest := []) (c_M_begin l G d) (cwV 0 C.1.2.2.2.2 gX12_deliverOil_X12_begin rfl rfl rfl (by decide +kernel) ⟨Nat.le_of_ble_eq_true rfl, Nat.le_of_ble_eq_true rfl⟩) x_k175 (q := (RX12, TX12, 16)) rfl rfl rfl rfl (Nat.le_of_ble_eq_true rfl) dX12_deliverOil_1 ⟨Nat.le_of_ble_eq_true rfl, Nat.le_of_ble_eq_true rfl⟩ ?_
  refine a_aload_n C dX12_deliverOil_4 0 rfl ?_
  refine a_aload_n C dX12_deliverOil_5 0 rfl ?_
  refine a_iload_n C dX12_deliverOil_6 1 rfl ?_
  refine a_callV C (k := 175) (As := [.int u]) (rest := [.ref (x_b G + 175)]) (c_M_delivers_2 l G (g_bg d) u hu hn) (cwV 1 C.1.2.2.2.2 gX12_deliverOil_X12_delivers rfl rfl rfl (by decide +kernel) ⟨Nat.le_of_ble_eq_true rfl, Nat.le_of_ble_eq_true rfl⟩) x_k175 (q := (RX12, TX12, 16)) rfl rfl rfl rfl (Nat.le_of_ble_eq_true rfl) dX12_deliverOil_7 ⟨Nat.le_of_ble_eq_true rfl, Nat.le_of_ble_eq_true rfl⟩ ?_
  refine a_callV C (k := 175) (As := [.int 0]) (rest := []) (c_M_kept_f l G (g_th (g_bg d) 2) 0 (show ¬ ((2 : Int32) = 0) by decide)) (cwV 1 C.1.2.2.2.2 gX12_deliverOil_X12_kept rfl rfl rfl (by decide +kernel) ⟨Nat.le_of_ble_eq_true rfl, Nat.le_of_ble_eq_true rfl⟩) x_k175 (q := (RX12, TX12, 16)) rfl rfl rfl rfl (Nat.le_of_ble_eq_true rfl) dX12_deliverOil_10 ⟨Nat.le_of_ble_eq_true rfl, Nat.le_of_ble_eq_true rfl⟩ ?_
  exact a_iret C hlocks hr dX12_deliverOil_13 rfl rfl

set_option maxHeartbeats 1000000 in
set_option maxRecDepth 100000 in
theorem c_M_deliverOil (l : Launch) (G : xG) (d : xd) (c9 : Nat) (hc : d 175 3 = nI c9) (h9 : c9 ≤ 8) (a0 : Nat) (sh : Nat → Nat) (n : Nat) (hn : d 176 0 = nI n) (h8 : n ≤ 8) (h1 : 1 ≤ n) (hs : ∀ j, j < n → d 176 (14 + j) = nI (sh j)) (hs9 : ∀ j, j < n → sh j ≤ 9) (hS : 1 ≤ f_sn sh n) (ha0 : a0 < 100000) (hu : 1 ≤ nI a0 ∧ nI a0 ≤ 200) : x_M G l yX12_deliverOil wsX12_deliverOil 6 0 0 [.ref (x_b G + 175), .int (nI a0)] d (some (.int (f_sum (g_add (d 176) (g_por a0 sh n)) n))) (g_kp (g_ok (g_bg d) (g_dl (d 176) (g_por a0 sh n) n)) c9) := by
  refine x_start (cc := cX12_deliverOil) (maxL := 2) (ret := (some .int)) (own := RX12) (by decide) rfl rfl (Nat.le_of_ble_eq_true rfl) (lst := [(0, .ref (x_b G + 175)), (1, .int (nI a0))]) rfl ?_
  intro p e s m args below meth c C hr hlocks
  refine a_aload_n C dX12_deliverOil_0 0 rfl ?_
  refine a_callV C (k := 175) (As := []) (rest := []) (c_M_begin l G d) (cwV 0 C.1.2.2.2.2 gX12_deliverOil_X12_begin rfl rfl rfl (by decide +kernel) ⟨Nat.le_of_ble_eq_true rfl, Nat.le_of_ble_eq_true rfl⟩) x_k175 (q := (RX12, TX12, 16)) rfl rfl rfl rfl (Nat.le_of_ble_eq_true rfl) dX12_deliverOil_1 ⟨Nat.le_of_ble_eq_true rfl, Nat.le_of_ble_eq_true rfl⟩ ?_
  refine a_aload_n C dX12_deliverOil_4 0 rfl ?_
  refine a_aload_n C dX12_deliverOil_5 0 rfl ?_
  refine a_iload_n C dX12_deliverOil_6 1 rfl ?_
  refine a_callV C (k := 175) (As := [.int (nI a0)]) (rest := [.ref (x_b G + 175)]) (c_M_delivers l G (g_bg d) a0 sh n hn h8 h1 hs hs9 hS ha0 hu) (cwV 1 C.1.2.2.2.2 gX12_deliverOil_X12_delivers rfl rfl rfl (by decide +kernel) ⟨Nat.le_of_ble_eq_true rfl, Nat.le_of_ble_eq_true rfl⟩) x_k175 (q := (RX12, TX12, 16)) rfl rfl rfl rfl (Nat.le_of_ble_eq_true rfl) dX12_deliverOil_7 ⟨Nat.le_of_ble_eq_true rfl, Nat.le_of_ble_eq_true rfl⟩ ?_
  refine a_callV C (k := 175) (As := [.int (f_sum (g_add (d 176) (g_por a0 sh n)) n)]) (rest := []) (c_M_kept l G (g_ok (g_bg d) (g_dl (d 176) (g_por a0 sh n) n)) ((f_sum (g_add (d 176) (g_por a0 sh n)) n)) c9 rfl hc h9) (cwV 1 C.1.2.2.2.2 gX12_deliverOil_X12_kept rfl rfl rfl (by decide +kernel) ⟨Nat.le_of_ble_eq_true rfl, Nat.le_of_ble_eq_true rfl⟩) x_k175 (q := (RX12, TX12, 16)) rfl rfl rfl rfl (Nat.le_of_ble_eq_true rfl) dX12_deliverOil_10 ⟨Nat.le_of_ble_eq_true rfl, Nat.le_of_ble_eq_true rfl⟩ ?_
  exact a_iret C hlocks hr dX12_deliverOil_13 rfl rfl

set_option maxHeartbeats 1000000 in
set_option maxRecDepth 100000 in
theorem c_M_buyOil_1 (l : Launch) (G : xG) (d : xd) (u : Int32) (x : Int32) (n : Nat) (hn : d 176 0 = nI n) (h8 : n ≤ 8) (hx : ¬ (0 ≤ x ∧ x < nI n)) : x_M G l yX12_buyOil wsX12_buyOil 4 0 0 [.ref (x_b G + 175), .int x, .int u] d (some (.int 0)) (g_kf (g_th (g_bg d) 1)) := by
  refine x_start (cc := cX12_buyOil) (maxL := 3) (ret := (some .int)) (own := RX12) (by decide) rfl rfl (Nat.le_of_ble_eq_true rfl) (lst := [(0, .ref (x_b G + 175)), (1, .int x), (2, .int u)]) rfl ?_
  intro p e s m args below meth c C hr hlocks
  refine a_aload_n C dX12_buyOil_0 0 rfl ?_
  refine a_callV C (k := 175) (As := []) (rest := []) (c_M_begin l G d) (cwV 0 C.1.2.2.2.2 gX12_buyOil_X12_begin rfl rfl rfl (by decide +kernel) ⟨Nat.le_of_ble_eq_true rfl, Nat.le_of_ble_eq_true rfl⟩) x_k175 (q := (RX12, TX12, 16)) rfl rfl rfl rfl (Nat.le_of_ble_eq_true rfl) dX12_buyOil_1 ⟨Nat.le_of_ble_eq_true rfl, Nat.le_of_ble_eq_true rfl⟩ ?_
  refine a_aload_n C dX12_buyOil_4 0 rfl ?_
  refine a_aload_n C dX12_buyOil_5 0 rfl ?_
  refine a_iload_n C dX12_buyOil_6 1 rfl ?_
  refine a_iload_n C dX12_buyOil_7 2 rfl ?_
  refine a_callV C (k := 175) (As := [.int x, .int u]) (rest := [.ref (x_b G + 175)]) (c_M_buys_1 l G (g_bg d) u x n hn h8 hx) (cwV 2 C.1.2.2.2.2 gX12_buyOil_X12_buys rfl rfl rfl (by decide +kernel) ⟨Nat.le_of_ble_eq_true rfl, Nat.le_of_ble_eq_true rfl⟩) x_k175 (q := (RX12, TX12, 16)) rfl rfl rfl rfl (Nat.le_of_ble_eq_true rfl) dX12_buyOil_8 ⟨Nat.le_of_ble_eq_true rfl, Nat.le_of_ble_eq_true rfl⟩ ?_
  refine a_callV C (k := 175) (As := [.int 0]) (rest := []) (c_M_kept_f l G (g_th (g_bg d) 1) 0 (show ¬ ((1 : Int32) = 0) by decide)) (cwV 1 C.1.2.2.2.2 gX12_buyOil_X12_kept rfl rfl rfl (by decide +kernel) ⟨Nat.le_of_ble_eq_true rfl, Nat.le_of_ble_eq_true rfl⟩) x_k175 (q := (RX12, TX12, 16)) rfl rfl rfl rfl (Nat.le_of_ble_eq_true rfl) dX12_buyOil_11 ⟨Nat.le_of_ble_eq_true rfl, Nat.le_of_ble_eq_true rfl⟩ ?_
  exact a_iret C hlocks hr dX12_buyOil_14 rfl rfl

set_option maxHeartbeats 1000000 in
set_option maxRecDepth 100000 in
theorem c_M_buyOil_2 (l : Launch) (G : xG) (d : xd) (u : Int32) (i n : Nat) (hn : d 176 0 = nI n) (h8 : n ≤ 8) (hi : i < n) (hu : ¬ (1 ≤ u ∧ u ≤ 60)) : x_M G l yX12_buyOil wsX12_buyOil 4 0 0 [.ref (x_b G + 175), .int (nI i), .int u] d (some (.int 0)) (g_kf (g_th (g_bg d) 2)) := by
  refine x_start (cc := cX12_buyOil) (maxL := 3) (ret := (some .int)) (own := RX12) (by decide) rfl rfl (Nat.le_of_ble_eq_true rfl) (lst := [(0, .ref (x_b G + 175)), (1, .int (nI i)), (2, .int u)]) rfl ?_
  intro p e s m args below meth c C hr hlocks
  refine a_aload_n C dX12_buyOil_0 0 rfl ?_
  refine a_callV C (k := 175) (As := []) (rest := []) (c_M_begin l G d) (cwV 0 C.1.2.2.2.2 gX12_buyOil_X12_begin rfl rfl rfl (by decide +kernel) ⟨Nat.le_of_ble_eq_true rfl, Nat.le_of_ble_eq_true rfl⟩) x_k175 (q := (RX12, TX12, 16)) rfl rfl rfl rfl (Nat.le_of_ble_eq_true rfl) dX12_buyOil_1 ⟨Nat.le_of_ble_eq_true rfl, Nat.le_of_ble_eq_true rfl⟩ ?_
  refine a_aload_n C dX12_buyOil_4 0 rfl ?_
  refine a_aload_n C dX12_buyOil_5 0 rfl ?_
  refine a_iload_n C dX12_buyOil_6 1 rfl ?_
  refine a_iload_n C dX12_buyOil_7 2 rfl ?_
  refine a_callV C (k := 175) (As := [.int (nI i), .int u]) (rest := [.ref (x_b G + 175)]) (c_M_buys_2 l G (g_bg d) u i n hn h8 hi hu) (cwV 2 C.1.2.2.2.2 gX12_buyOil_X12_buys rfl rfl rfl (by decide +kernel) ⟨Nat.le_of_ble_eq_true rfl, Nat.le_of_ble_eq_true rfl⟩) x_k175 (q := (RX12, TX12, 16)) rfl rfl rfl rfl (Nat.le_of_ble_eq_true rfl) dX12_buyOil_8 ⟨Nat.le_of_ble_eq_true rfl, Nat.le_of_ble_eq_true rfl⟩ ?_
  refine a_callV C (k := 175) (As := [.int 0]) (rest := []) (c_M_kept_f l G (g_th (g_bg d) 2) 0 (show ¬ ((2 : Int32) = 0) by decide)) (cwV 1 C.1.2.2.2.2 gX12_buyOil_X12_kept rfl rfl rfl (by decide +kernel) ⟨Nat.le_of_ble_eq_true rfl, Nat.le_of_ble_eq_true rfl⟩) x_k175 (q := (RX12, TX12, 16)) rfl rfl rfl rfl (Nat.le_of_ble_eq_true rfl) dX12_buyOil_11 ⟨Nat.le_of_ble_eq_true rfl, Nat.le_of_ble_eq_true rfl⟩ ?_
  exact a_iret C hlocks hr dX12_buyOil_14 rfl rfl

set_option maxHeartbeats 1000000 in
set_option maxRecDepth 100000 in
theorem c_M_buyOil_3 (l : Launch) (G : xG) (d : xd) (u : Int32) (i n : Nat) (hn : d 176 0 = nI n) (h8 : n ≤ 8) (hi : i < n) (hu : 1 ≤ u ∧ u ≤ 60) (hq : ¬ (¬ d 176 3 < u ∧ d 176 (38 + i) + u ≤ 60 ∧ ¬ d 176 (54 + i) < u)) : x_M G l yX12_buyOil wsX12_buyOil 4 0 0 [.ref (x_b G + 175), .int (nI i), .int u] d (some (.int 0)) (g_kf (g_th (g_bg d) 3)) := by
  refine x_start (cc := cX12_buyOil) (maxL := 3) (ret := (some .int)) (own := RX12) (by decide) rfl rfl (Nat.le_of_ble_eq_true rfl) (lst := [(0, .ref (x_b G + 175)), (1, .int (nI i)), (2, .int u)]) rfl ?_
  intro p e s m args below meth c C hr hlocks
  refine a_aload_n C dX12_buyOil_0 0 rfl ?_
  refine a_callV C (k := 175) (As := []) (rest := []) (c_M_begin l G d) (cwV 0 C.1.2.2.2.2 gX12_buyOil_X12_begin rfl rfl rfl (by decide +kernel) ⟨Nat.le_of_ble_eq_true rfl, Nat.le_of_ble_eq_true rfl⟩) x_k175 (q := (RX12, TX12, 16)) rfl rfl rfl rfl (Nat.le_of_ble_eq_true rfl) dX12_buyOil_1 ⟨Nat.le_of_ble_eq_true rfl, Nat.le_of_ble_eq_true rfl⟩ ?_
  refine a_aload_n C dX12_buyOil_4 0 rfl ?_
  refine a_aload_n C dX12_buyOil_5 0 rfl ?_
  refine a_iload_n C dX12_buyOil_6 1 rfl ?_
  refine a_iload_n C dX12_buyOil_7 2 rfl ?_
  refine a_callV C (k := 175) (As := [.int (nI i), .int u]) (rest := [.ref (x_b G + 175)]) (c_M_buys_3 l G (g_bg d) u i n hn h8 hi hu hq) (cwV 2 C.1.2.2.2.2 gX12_buyOil_X12_buys rfl rfl rfl (by decide +kernel) ⟨Nat.le_of_ble_eq_true rfl, Nat.le_of_ble_eq_true rfl⟩) x_k175 (q := (RX12, TX12, 16)) rfl rfl rfl rfl (Nat.le_of_ble_eq_true rfl) dX12_buyOil_8 ⟨Nat.le_of_ble_eq_true rfl, Nat.le_of_ble_eq_true rfl⟩ ?_
  refine a_callV C (k := 175) (As := [.int 0]) (rest := []) (c_M_kept_f l G (g_th (g_bg d) 3) 0 (show ¬ ((3 : Int32) = 0) by decide)) (cwV 1 C.1.2.2.2.2 gX12_buyOil_X12_kept rfl rfl rfl (by decide +kernel) ⟨Nat.le_of_ble_eq_true rfl, Nat.le_of_ble_eq_true rfl⟩) x_k175 (q := (RX12, TX12, 16)) rfl rfl rfl rfl (Nat.le_of_ble_eq_true rfl) dX12_buyOil_11 ⟨Nat.le_of_ble_eq_true rfl, Nat.le_of_ble_eq_true rfl⟩ ?_
  exact a_iret C hlocks hr dX12_buyOil_14 rfl rfl

set_option maxHeartbeats 1000000 in
set_option maxRecDepth 100000 in
theorem c_M_buyOil (l : Launch) (G : xG) (d : xd) (c9 : Nat) (hc : d 175 3 = nI c9) (h9 : c9 ≤ 8) (u : Int32) (i n : Nat) (hn : d 176 0 = nI n) (h8 : n ≤ 8) (hi : i < n) (hu : 1 ≤ u ∧ u ≤ 60) (hq : ¬ d 176 3 < u ∧ d 176 (38 + i) + u ≤ 60 ∧ ¬ d 176 (54 + i) < u) : x_M G l yX12_buyOil wsX12_buyOil 4 0 0 [.ref (x_b G + 175), .int (nI i), .int u] d (some (.int (d 176 (38 + i) + u))) (g_kp (g_ok (g_bg d) (g_buys (d 176) u i)) c9) := by
  refine x_start (cc := cX12_buyOil) (maxL := 3) (ret := (some .int)) (own := RX12) (by decide) rfl rfl (Nat.le_of_ble_eq_true rfl) (lst := [(0, .ref (x_b G + 175)), (1, .int (nI i)), (2, .int u)]) rfl ?_
  intro p e s m args below meth c C hr hlocks
  refine a_aload_n C dX12_buyOil_0 0 rfl ?_
  refine a_callV C (k := 175) (As := []) (rest := []) (c_M_begin l G d) (cwV 0 C.1.2.2.2.2 gX12_buyOil_X12_begin rfl rfl rfl (by decide +kernel) ⟨Nat.le_of_ble_eq_true rfl, Nat.le_of_ble_eq_true rfl⟩) x_k175 (q := (RX12, TX12, 16)) rfl rfl rfl rfl (Nat.le_of_ble_eq_true rfl) dX12_buyOil_1 ⟨Nat.le_of_ble_eq_true rfl, Nat.le_of_ble_eq_true rfl⟩ ?_
  refine a_aload_n C dX12_buyOil_4 0 rfl ?_
  refine a_aload_n C dX12_buyOil_5 0 rfl ?_
  refine a_iload_n C dX12_buyOil_6 1 rfl ?_
  refine a_iload_n C dX12_buyOil_7 2 rfl ?_
  refine a_callV C (k := 175) (As := [.int (nI i), .int u]) (rest := [.ref (x_b G + 175)]) (c_M_buys l G (g_bg d) u i n hn h8 hi hu hq) (cwV 2 C.1.2.2.2.2 gX12_buyOil_X12_buys rfl rfl rfl (by decide +kernel) ⟨Nat.le_of_ble_eq_true rfl, Nat.le_of_ble_eq_true rfl⟩) x_k175 (q := (RX12, TX12, 16)) rfl rfl rfl rfl (Nat.le_of_ble_eq_true rfl) dX12_buyOil_8 ⟨Nat.le_of_ble_eq_true rfl, Nat.le_of_ble_eq_true rfl⟩ ?_
  refine a_callV C (k := 175) (As := [.int (d 176 (38 + i) + u)]) (rest := []) (c_M_kept l G (g_ok (g_bg d) (g_buys (d 176) u i)) ((d 176 (38 + i) + u)) c9 rfl hc h9) (cwV 1 C.1.2.2.2.2 gX12_buyOil_X12_kept rfl rfl rfl (by decide +kernel) ⟨Nat.le_of_ble_eq_true rfl, Nat.le_of_ble_eq_true rfl⟩) x_k175 (q := (RX12, TX12, 16)) rfl rfl rfl rfl (Nat.le_of_ble_eq_true rfl) dX12_buyOil_11 ⟨Nat.le_of_ble_eq_true rfl, Nat.le_of_ble_eq_true rfl⟩ ?_
  exact a_iret C hlocks hr dX12_buyOil_14 rfl rfl

set_option maxHeartbeats 1000000 in
set_option maxRecDepth 100000 in
theorem c_M_donateWicks_1 (l : Launch) (G : xG) (d : xd) (u : Int32) (hu : ¬ (1 ≤ u ∧ u ≤ 50)) : x_M G l yX12_donateWicks wsX12_donateWicks 4 0 0 [.ref (x_b G + 175), .int u] d (some (.int 0)) (g_kf (g_th (g_bg d) 1)) := by
  refine x_start (cc := cX12_donateWicks) (maxL := 2) (ret := (some .int)) (own := RX12) (by decide) rfl rfl (Nat.le_of_ble_eq_true rfl) (lst := [(0, .ref (x_b G + 175)), (1, .int u)]) rfl ?_
  intro p e s m args below meth c C hr hlocks
  refine a_aload_n C dX12_donateWicks_0 0 rfl ?_
  refine a_callV C (k := 175) (As := []) (rest := []) (c_M_begin l G d) (cwV 0 C.1.2.2.2.2 gX12_donateWicks_X12_begin rfl rfl rfl (by decide +kernel) ⟨Nat.le_of_ble_eq_true rfl, Nat.le_of_ble_eq_true rfl⟩) x_k175 (q := (RX12, TX12, 16)) rfl rfl rfl rfl (Nat.le_of_ble_eq_true rfl) dX12_donateWicks_1 ⟨Nat.le_of_ble_eq_true rfl, Nat.le_of_ble_eq_true rfl⟩ ?_
  refine a_aload_n C dX12_donateWicks_4 0 rfl ?_
  refine a_aload_n C dX12_donateWicks_5 0 rfl ?_
  refine a_iload_n C dX12_donateWicks_6 1 rfl ?_
  refine a_callV C (k := 175) (As := [.int u]) (rest := [.ref (x_b G + 175)]) (c_M_donates_1 l G (g_bg d) u hu) (cwV 1 C.1.2.2.2.2 gX12_donateWicks_X12_donates rfl rfl rfl (by decide +kernel) ⟨Nat.le_of_ble_eq_true rfl, Nat.le_of_ble_eq_true rfl⟩) x_k175 (q := (RX12, TX12, 16)) rfl rfl rfl rfl (Nat.le_of_ble_eq_true rfl) dX12_donateWicks_7 ⟨Nat.le_of_ble_eq_true rfl, Nat.le_of_ble_eq_true rfl⟩ ?_
  refine a_callV C (k := 175) (As := [.int 0]) (rest := []) (c_M_kept_f l G (g_th (g_bg d) 1) 0 (show ¬ ((1 : Int32) = 0) by decide)) (cwV 1 C.1.2.2.2.2 gX12_donateWicks_X12_kept rfl rfl rfl (by decide +kernel) ⟨Nat.le_of_ble_eq_true rfl, Nat.le_of_ble_eq_true rfl⟩) x_k175 (q := (RX12, TX12, 16)) rfl rfl rfl rfl (Nat.le_of_ble_eq_true rfl) dX12_donateWicks_10 ⟨Nat.le_of_ble_eq_true rfl, Nat.le_of_ble_eq_true rfl⟩ ?_
  exact a_iret C hlocks hr dX12_donateWicks_13 rfl rfl

set_option maxHeartbeats 1000000 in
set_option maxRecDepth 100000 in
theorem c_M_donateWicks_2 (l : Launch) (G : xG) (d : xd) (u : Int32) (hu : 1 ≤ u ∧ u ≤ 50) (hp : ¬ d 176 4 + u ≤ 99) : x_M G l yX12_donateWicks wsX12_donateWicks 4 0 0 [.ref (x_b G + 175), .int u] d (some (.int 0)) (g_kf (g_th (g_bg d) 2)) := by
  refine x_start (cc := cX12_donateWicks) (maxL := 2) (ret := (some .int)) (own := RX12) (by decide) rfl rfl (Nat.le_of_ble_eq_true rfl) (lst := [(0, .ref (x_b G + 175)), (1, .int u)]) rfl ?_
  intro p e s m args below meth c C hr hlocks
  refine a_aload_n C dX12_donateWicks_0 0 rfl ?_
  refine a_callV C (k := 175) (As := []) (rest := []) (c_M_begin l G d) (cwV 0 C.1.2.2.2.2 gX12_donateWicks_X12_begin rfl rfl rfl (by decide +kernel) ⟨Nat.le_of_ble_eq_true rfl, Nat.le_of_ble_eq_true rfl⟩) x_k175 (q := (RX12, TX12, 16)) rfl rfl rfl rfl (Nat.le_of_ble_eq_true rfl) dX12_donateWicks_1 ⟨Nat.le_of_ble_eq_true rfl, Nat.le_of_ble_eq_true rfl⟩ ?_
  refine a_aload_n C dX12_donateWicks_4 0 rfl ?_
  refine a_aload_n C dX12_donateWicks_5 0 rfl ?_
  refine a_iload_n C dX12_donateWicks_6 1 rfl ?_
  refine a_callV C (k := 175) (As := [.int u]) (rest := [.ref (x_b G + 175)]) (c_M_donates_2 l G (g_bg d) u hu hp) (cwV 1 C.1.2.2.2.2 gX12_donateWicks_X12_donates rfl rfl rfl (by decide +kernel) ⟨Nat.le_of_ble_eq_true rfl, Nat.le_of_ble_eq_true rfl⟩) x_k175 (q := (RX12, TX12, 16)) rfl rfl rfl rfl (Nat.le_of_ble_eq_true rfl) dX12_donateWicks_7 ⟨Nat.le_of_ble_eq_true rfl, Nat.le_of_ble_eq_true rfl⟩ ?_
  refine a_callV C (k := 175) (As := [.int 0]) (rest := []) (c_M_kept_f l G (g_th (g_bg d) 2) 0 (show ¬ ((2 : Int32) = 0) by decide)) (cwV 1 C.1.2.2.2.2 gX12_donateWicks_X12_kept rfl rfl rfl (by decide +kernel) ⟨Nat.le_of_ble_eq_true rfl, Nat.le_of_ble_eq_true rfl⟩) x_k175 (q := (RX12, TX12, 16)) rfl rfl rfl rfl (Nat.le_of_ble_eq_true rfl) dX12_donateWicks_10 ⟨Nat.le_of_ble_eq_true rfl, Nat.le_of_ble_eq_true rfl⟩ ?_
  exact a_iret C hlocks hr dX12_donateWicks_13 rfl rfl

set_option maxHeartbeats 1000000 in
set_option maxRecDepth 100000 in
theorem c_M_donateWicks (l : Launch) (G : xG) (d : xd) (c9 : Nat) (hc : d 175 3 = nI c9) (h9 : c9 ≤ 8) (u : Int32) (hu : 1 ≤ u ∧ u ≤ 50) (hp : d 176 4 + u ≤ 99) : x_M G l yX12_donateWicks wsX12_donateWicks 4 0 0 [.ref (x_b G + 175), .int u] d (some (.int (d 176 4 + u))) (g_kp (g_ok (g_bg d) (upd (d 176) 4 (d 176 4 + u))) c9) := by
  refine x_start (cc := cX12_donateWicks) (maxL := 2) (ret := (some .int)) (own := RX12) (by decide) rfl rfl (Nat.le_of_ble_eq_true rfl) (lst := [(0, .ref (x_b G + 175)), (1, .int u)]) rfl ?_
  intro p e s m args below meth c C hr hlocks
  refine a_aload_n C dX12_donateWicks_0 0 rfl ?_
  refine a_callV C (k := 175) (As := []) (rest := []) (c_M_begin l G d) (cwV 0 C.1.2.2.2.2 gX12_donateWicks_X12_begin rfl rfl rfl (by decide +kernel) ⟨Nat.le_of_ble_eq_true rfl, Nat.le_of_ble_eq_true rfl⟩) x_k175 (q := (RX12, TX12, 16)) rfl rfl rfl rfl (Nat.le_of_ble_eq_true rfl) dX12_donateWicks_1 ⟨Nat.le_of_ble_eq_true rfl, Nat.le_of_ble_eq_true rfl⟩ ?_
  refine a_aload_n C dX12_donateWicks_4 0 rfl ?_
  refine a_aload_n C dX12_donateWicks_5 0 rfl ?_
  refine a_iload_n C dX12_donateWicks_6 1 rfl ?_
  refine a_callV C (k := 175) (As := [.int u]) (rest := [.ref (x_b G + 175)]) (c_M_donates l G (g_bg d) u hu hp) (cwV 1 C.1.2.2.2.2 gX12_donateWicks_X12_donates rfl rfl rfl (by decide +kernel) ⟨Nat.le_of_ble_eq_true rfl, Nat.le_of_ble_eq_true rfl⟩) x_k175 (q := (RX12, TX12, 16)) rfl rfl rfl rfl (Nat.le_of_ble_eq_true rfl) dX12_donateWicks_7 ⟨Nat.le_of_ble_eq_true rfl, Nat.le_of_ble_eq_true rfl⟩ ?_
  refine a_callV C (k := 175) (As := [.int (d 176 4 + u)]) (rest := []) (c_M_kept l G (g_ok (g_bg d) (upd (d 176) 4 (d 176 4 + u))) ((d 176 4 + u)) c9 rfl hc h9) (cwV 1 C.1.2.2.2.2 gX12_donateWicks_X12_kept rfl rfl rfl (by decide +kernel) ⟨Nat.le_of_ble_eq_true rfl, Nat.le_of_ble_eq_true rfl⟩) x_k175 (q := (RX12, TX12, 16)) rfl rfl rfl rfl (Nat.le_of_ble_eq_true rfl) dX12_donateWicks_10 ⟨Nat.le_of_ble_eq_true rfl, Nat.le_of_ble_eq_true rfl⟩ ?_
  exact a_iret C hlocks hr dX12_donateWicks_13 rfl rfl

set_option maxHeartbeats 1000000 in
set_option maxRecDepth 100000 in
theorem c_M_giveWick_1 (l : Launch) (G : xG) (d : xd) (u : Int32) (x : Int32) (n : Nat) (hn : d 176 0 = nI n) (h8 : n ≤ 8) (hx : ¬ (0 ≤ x ∧ x < nI n)) : x_M G l yX12_giveWick wsX12_giveWick 4 0 0 [.ref (x_b G + 175), .int x, .int u] d (some (.int 0)) (g_kf (g_th (g_bg d) 1)) := by
  refine x_start (cc := cX12_giveWick) (maxL := 3) (ret := (some .int)) (own := RX12) (by decide) rfl rfl (Nat.le_of_ble_eq_true rfl) (lst := [(0, .ref (x_b G + 175)), (1, .int x), (2, .int u)]) rfl ?_
  intro p e s m args below meth c C hr hlocks
  refine a_aload_n C dX12_giveWick_0 0 rfl ?_
  refine a_callV C (k := 175) (As := []) (rest := []) (c_M_begin l G d) (cwV 0 C.1.2.2.2.2 gX12_giveWick_X12_begin rfl rfl rfl (by decide +kernel) ⟨Nat.le_of_ble_eq_true rfl, Nat.le_of_ble_eq_true rfl⟩) x_k175 (q := (RX12, TX12, 16)) rfl rfl rfl rfl (Nat.le_of_ble_eq_true rfl) dX12_giveWick_1 ⟨Nat.le_of_ble_eq_true rfl, Nat.le_of_ble_eq_true rfl⟩ ?_
  refine a_aload_n C dX12_giveWick_4 0 rfl ?_
  refine a_aload_n C dX12_giveWick_5 0 rfl ?_
  refine a_iload_n C dX12_giveWick_6 1 rfl ?_
  refine a_iload_n C dX12_giveWick_7 2 rfl ?_
  refine a_iconst C dX12_giveWick_8 (v := 1) (by decide) ?_
  refine a_callV C (k := 175) (As := [.int x, .int u, .int 1]) (rest := [.ref (x_b G + 175)]) (c_M_movesWick_1 l G (g_bg d) u 1 x n hn h8 hx) (cwV 3 C.1.2.2.2.2 gX12_giveWick_X12_movesWick rfl rfl rfl (by decide +kernel) ⟨Nat.le_of_ble_eq_true rfl, Nat.le_of_ble_eq_true rfl⟩) x_k175 (q := (RX12, TX12, 16)) rfl rfl rfl rfl (Nat.le_of_ble_eq_true rfl) dX12_giveWick_9 ⟨Nat.le_of_ble_eq_true rfl, Nat.le_of_ble_eq_true rfl⟩ ?_
  refine a_callV C (k := 175) (As := [.int 0]) (rest := []) (c_M_kept_f l G (g_th (g_bg d) 1) 0 (show ¬ ((1 : Int32) = 0) by decide)) (cwV 1 C.1.2.2.2.2 gX12_giveWick_X12_kept rfl rfl rfl (by decide +kernel) ⟨Nat.le_of_ble_eq_true rfl, Nat.le_of_ble_eq_true rfl⟩) x_k175 (q := (RX12, TX12, 16)) rfl rfl rfl rfl (Nat.le_of_ble_eq_true rfl) dX12_giveWick_12 ⟨Nat.le_of_ble_eq_true rfl, Nat.le_of_ble_eq_true rfl⟩ ?_
  exact a_iret C hlocks hr dX12_giveWick_15 rfl rfl

set_option maxHeartbeats 1000000 in
set_option maxRecDepth 100000 in
theorem c_M_giveWick_2 (l : Launch) (G : xG) (d : xd) (u : Int32) (i n : Nat) (hn : d 176 0 = nI n) (h8 : n ≤ 8) (hi : i < n) (hu : ¬ (1 ≤ u ∧ u ≤ 9)) : x_M G l yX12_giveWick wsX12_giveWick 4 0 0 [.ref (x_b G + 175), .int (nI i), .int u] d (some (.int 0)) (g_kf (g_th (g_bg d) 2)) := by
  refine x_start (cc := cX12_giveWick) (maxL := 3) (ret := (some .int)) (own := RX12) (by decide) rfl rfl (Nat.le_of_ble_eq_true rfl) (lst := [(0, .ref (x_b G + 175)), (1, .int (nI i)), (2, .int u)]) rfl ?_
  intro p e s m args below meth c C hr hlocks
  refine a_aload_n C dX12_giveWick_0 0 rfl ?_
  refine a_callV C (k := 175) (As := []) (rest := []) (c_M_begin l G d) (cwV 0 C.1.2.2.2.2 gX12_giveWick_X12_begin rfl rfl rfl (by decide +kernel) ⟨Nat.le_of_ble_eq_true rfl, Nat.le_of_ble_eq_true rfl⟩) x_k175 (q := (RX12, TX12, 16)) rfl rfl rfl rfl (Nat.le_of_ble_eq_true rfl) dX12_giveWick_1 ⟨Nat.le_of_ble_eq_true rfl, Nat.le_of_ble_eq_true rfl⟩ ?_
  refine a_aload_n C dX12_giveWick_4 0 rfl ?_
  refine a_aload_n C dX12_giveWick_5 0 rfl ?_
  refine a_iload_n C dX12_giveWick_6 1 rfl ?_
  refine a_iload_n C dX12_giveWick_7 2 rfl ?_
  refine a_iconst C dX12_giveWick_8 (v := 1) (by decide) ?_
  refine a_callV C (k := 175) (As := [.int (nI i), .int u, .int 1]) (rest := [.ref (x_b G + 175)]) (c_M_movesWick_2 l G (g_bg d) u 1 i n hn h8 hi hu) (cwV 3 C.1.2.2.2.2 gX12_giveWick_X12_movesWick rfl rfl rfl (by decide +kernel) ⟨Nat.le_of_ble_eq_true rfl, Nat.le_of_ble_eq_true rfl⟩) x_k175 (q := (RX12, TX12, 16)) rfl rfl rfl rfl (Nat.le_of_ble_eq_true rfl) dX12_giveWick_9 ⟨Nat.le_of_ble_eq_true rfl, Nat.le_of_ble_eq_true rfl⟩ ?_
  refine a_callV C (k := 175) (As := [.int 0]) (rest := []) (c_M_kept_f l G (g_th (g_bg d) 2) 0 (show ¬ ((2 : Int32) = 0) by decide)) (cwV 1 C.1.2.2.2.2 gX12_giveWick_X12_kept rfl rfl rfl (by decide +kernel) ⟨Nat.le_of_ble_eq_true rfl, Nat.le_of_ble_eq_true rfl⟩) x_k175 (q := (RX12, TX12, 16)) rfl rfl rfl rfl (Nat.le_of_ble_eq_true rfl) dX12_giveWick_12 ⟨Nat.le_of_ble_eq_true rfl, Nat.le_of_ble_eq_true rfl⟩ ?_
  exact a_iret C hlocks hr dX12_giveWick_15 rfl rfl

set_option maxHeartbeats 1000000 in
set_option maxRecDepth 100000 in
theorem c_M_giveWick_3 (l : Launch) (G : xG) (d : xd) (u : Int32) (i n : Nat) (hn : d 176 0 = nI n) (h8 : n ≤ 8) (hi : i < n) (hu : 1 ≤ u ∧ u ≤ 9) (hq : ¬ ((0 ≤ d 176 (46 + i) + 1 * u ∧ d 176 (46 + i) + 1 * u ≤ 9) ∧ (0 ≤ d 176 4 - 1 * u ∧ d 176 4 - 1 * u ≤ 99))) : x_M G l yX12_giveWick wsX12_giveWick 4 0 0 [.ref (x_b G + 175), .int (nI i), .int u] d (some (.int 0)) (g_kf (g_th (g_bg d) 3)) := by
  refine x_start (cc := cX12_giveWick) (maxL := 3) (ret := (some .int)) (own := RX12) (by decide) rfl rfl (Nat.le_of_ble_eq_true rfl) (lst := [(0, .ref (x_b G + 175)), (1, .int (nI i)), (2, .int u)]) rfl ?_
  intro p e s m args below meth c C hr hlocks
  refine a_aload_n C dX12_giveWick_0 0 rfl ?_
  refine a_callV C (k := 175) (As := []) (rest := []) (c_M_begin l G d) (cwV 0 C.1.2.2.2.2 gX12_giveWick_X12_begin rfl rfl rfl (by decide +kernel) ⟨Nat.le_of_ble_eq_true rfl, Nat.le_of_ble_eq_true rfl⟩) x_k175 (q := (RX12, TX12, 16)) rfl rfl rfl rfl (Nat.le_of_ble_eq_true rfl) dX12_giveWick_1 ⟨Nat.le_of_ble_eq_true rfl, Nat.le_of_ble_eq_true rfl⟩ ?_
  refine a_aload_n C dX12_giveWick_4 0 rfl ?_
  refine a_aload_n C dX12_giveWick_5 0 rfl ?_
  refine a_iload_n C dX12_giveWick_6 1 rfl ?_
  refine a_iload_n C dX12_giveWick_7 2 rfl ?_
  refine a_iconst C dX12_giveWick_8 (v := 1) (by decide) ?_
  refine a_callV C (k := 175) (As := [.int (nI i), .int u, .int 1]) (rest := [.ref (x_b G + 175)]) (c_M_movesWick_3 l G (g_bg d) u 1 i n hn h8 hi hu hq) (cwV 3 C.1.2.2.2.2 gX12_giveWick_X12_movesWick rfl rfl rfl (by decide +kernel) ⟨Nat.le_of_ble_eq_true rfl, Nat.le_of_ble_eq_true rfl⟩) x_k175 (q := (RX12, TX12, 16)) rfl rfl rfl rfl (Nat.le_of_ble_eq_true rfl) dX12_giveWick_9 ⟨Nat.le_of_ble_eq_true rfl, Nat.le_of_ble_eq_true rfl⟩ ?_
  refine a_callV C (k := 175) (As := [.int 0]) (rest := []) (c_M_kept_f l G (g_th (g_bg d) 3) 0 (show ¬ ((3 : Int32) = 0) by decide)) (cwV 1 C.1.2.2.2.2 gX12_giveWick_X12_kept rfl rfl rfl (by decide +kernel) ⟨Nat.le_of_ble_eq_true rfl, Nat.le_of_ble_eq_true rfl⟩) x_k175 (q := (RX12, TX12, 16)) rfl rfl rfl rfl (Nat.le_of_ble_eq_true rfl) dX12_giveWick_12 ⟨Nat.le_of_ble_eq_true rfl, Nat.le_of_ble_eq_true rfl⟩ ?_
  exact a_iret C hlocks hr dX12_giveWick_15 rfl rfl

set_option maxHeartbeats 1000000 in
set_option maxRecDepth 100000 in
theorem c_M_giveWick (l : Launch) (G : xG) (d : xd) (c9 : Nat) (hc : d 175 3 = nI c9) (h9 : c9 ≤ 8) (u : Int32) (i n : Nat) (hn : d 176 0 = nI n) (h8 : n ≤ 8) (hi : i < n) (hu : 1 ≤ u ∧ u ≤ 9) (hc1 : 0 ≤ d 176 (46 + i) + 1 * u ∧ d 176 (46 + i) + 1 * u ≤ 9) (hc2 : 0 ≤ d 176 4 - 1 * u ∧ d 176 4 - 1 * u ≤ 99) : x_M G l yX12_giveWick wsX12_giveWick 4 0 0 [.ref (x_b G + 175), .int (nI i), .int u] d (some (.int (d 176 (46 + i) + 1 * u))) (g_kp (g_ok (g_bg d) (upd (upd (d 176) (46 + i) (d 176 (46 + i) + 1 * u)) 4 (d 176 4 - 1 * u))) c9) := by
  refine x_start (cc := cX12_giveWick) (maxL := 3) (ret := (some .int)) (own := RX12) (by decide) rfl rfl (Nat.le_of_ble_eq_true rfl) (lst := [(0, .ref (x_b G + 175)), (1, .int (nI i)), (2, .int u)]) rfl ?_
  intro p e s m args below meth c C hr hlocks
  refine a_aload_n C dX12_giveWick_0 0 rfl ?_
  refine a_callV C (k := 175) (As := []) (rest := []) (c_M_begin l G d) (cwV 0 C.1.2.2.2.2 gX12_giveWick_X12_begin rfl rfl rfl (by decide +kernel) ⟨Nat.le_of_ble_eq_true rfl, Nat.le_of_ble_eq_true rfl⟩) x_k175 (q := (RX12, TX12, 16)) rfl rfl rfl rfl (Nat.le_of_ble_eq_true rfl) dX12_giveWick_1 ⟨Nat.le_of_ble_eq_true rfl, Nat.le_of_ble_eq_true rfl⟩ ?_
  refine a_aload_n C dX12_giveWick_4 0 rfl ?_
  refine a_aload_n C dX12_giveWick_5 0 rfl ?_
  refine a_iload_n C dX12_giveWick_6 1 rfl ?_
  refine a_iload_n C dX12_giveWick_7 2 rfl ?_
  refine a_iconst C dX12_giveWick_8 (v := 1) (by decide) ?_
  refine a_callV C (k := 175) (As := [.int (nI i), .int u, .int 1]) (rest := [.ref (x_b G + 175)]) (c_M_movesWick l G (g_bg d) u 1 i n hn h8 hi hu hc1 hc2) (cwV 3 C.1.2.2.2.2 gX12_giveWick_X12_movesWick rfl rfl rfl (by decide +kernel) ⟨Nat.le_of_ble_eq_true rfl, Nat.le_of_ble_eq_true rfl⟩) x_k175 (q := (RX12, TX12, 16)) rfl rfl rfl rfl (Nat.le_of_ble_eq_true rfl) dX12_giveWick_9 ⟨Nat.le_of_ble_eq_true rfl, Nat.le_of_ble_eq_true rfl⟩ ?_
  refine a_callV C (k := 175) (As := [.int (d 176 (46 + i) + 1 * u)]) (rest := []) (c_M_kept l G (g_ok (g_bg d) (upd (upd (d 176) (46 + i) (d 176 (46 + i) + 1 * u)) 4 (d 176 4 - 1 * u))) ((d 176 (46 + i) + 1 * u)) c9 rfl hc h9) (cwV 1 C.1.2.2.2.2 gX12_giveWick_X12_kept rfl rfl rfl (by decide +kernel) ⟨Nat.le_of_ble_eq_true rfl, Nat.le_of_ble_eq_true rfl⟩) x_k175 (q := (RX12, TX12, 16)) rfl rfl rfl rfl (Nat.le_of_ble_eq_true rfl) dX12_giveWick_12 ⟨Nat.le_of_ble_eq_true rfl, Nat.le_of_ble_eq_true rfl⟩ ?_
  exact a_iret C hlocks hr dX12_giveWick_15 rfl rfl

set_option maxHeartbeats 1000000 in
set_option maxRecDepth 100000 in
theorem c_M_returnWick_1 (l : Launch) (G : xG) (d : xd) (u : Int32) (x : Int32) (n : Nat) (hn : d 176 0 = nI n) (h8 : n ≤ 8) (hx : ¬ (0 ≤ x ∧ x < nI n)) : x_M G l yX12_returnWick wsX12_returnWick 4 0 0 [.ref (x_b G + 175), .int x, .int u] d (some (.int 0)) (g_kf (g_th (g_bg d) 1)) := by
  refine x_start (cc := cX12_returnWick) (maxL := 3) (ret := (some .int)) (own := RX12) (by decide) rfl rfl (Nat.le_of_ble_eq_true rfl) (lst := [(0, .ref (x_b G + 175)), (1, .int x), (2, .int u)]) rfl ?_
  intro p e s m args below meth c C hr hlocks
  refine a_aload_n C dX12_returnWick_0 0 rfl ?_
  refine a_callV C (k := 175) (As := []) (rest := []) (c_M_begin l G d) (cwV 0 C.1.2.2.2.2 gX12_returnWick_X12_begin rfl rfl rfl (by decide +kernel) ⟨Nat.le_of_ble_eq_true rfl, Nat.le_of_ble_eq_true rfl⟩) x_k175 (q := (RX12, TX12, 16)) rfl rfl rfl rfl (Nat.le_of_ble_eq_true rfl) dX12_returnWick_1 ⟨Nat.le_of_ble_eq_true rfl, Nat.le_of_ble_eq_true rfl⟩ ?_
  refine a_aload_n C dX12_returnWick_4 0 rfl ?_
  refine a_aload_n C dX12_returnWick_5 0 rfl ?_
  refine a_iload_n C dX12_returnWick_6 1 rfl ?_
  refine a_iload_n C dX12_returnWick_7 2 rfl ?_
  refine a_iconst C dX12_returnWick_8 (v := -1) (by decide) ?_
  refine a_callV C (k := 175) (As := [.int x, .int u, .int (-1)]) (rest := [.ref (x_b G + 175)]) (c_M_movesWick_1 l G (g_bg d) u (-1) x n hn h8 hx) (cwV 3 C.1.2.2.2.2 gX12_returnWick_X12_movesWick rfl rfl rfl (by decide +kernel) ⟨Nat.le_of_ble_eq_true rfl, Nat.le_of_ble_eq_true rfl⟩) x_k175 (q := (RX12, TX12, 16)) rfl rfl rfl rfl (Nat.le_of_ble_eq_true rfl) dX12_returnWick_9 ⟨Nat.le_of_ble_eq_true rfl, Nat.le_of_ble_eq_true rfl⟩ ?_
  refine a_callV C (k := 175) (As := [.int 0]) (rest := []) (c_M_kept_f l G (g_th (g_bg d) 1) 0 (show ¬ ((1 : Int32) = 0) by decide)) (cwV 1 C.1.2.2.2.2 gX12_returnWick_X12_kept rfl rfl rfl (by decide +kernel) ⟨Nat.le_of_ble_eq_true rfl, Nat.le_of_ble_eq_true rfl⟩) x_k175 (q := (RX12, TX12, 16)) rfl rfl rfl rfl (Nat.le_of_ble_eq_true rfl) dX12_returnWick_12 ⟨Nat.le_of_ble_eq_true rfl, Nat.le_of_ble_eq_true rfl⟩ ?_
  exact a_iret C hlocks hr dX12_returnWick_15 rfl rfl

set_option maxHeartbeats 1000000 in
set_option maxRecDepth 100000 in
theorem c_M_returnWick_2 (l : Launch) (G : xG) (d : xd) (u : Int32) (i n : Nat) (hn : d 176 0 = nI n) (h8 : n ≤ 8) (hi : i < n) (hu : ¬ (1 ≤ u ∧ u ≤ 9)) : x_M G l yX12_returnWick wsX12_returnWick 4 0 0 [.ref (x_b G + 175), .int (nI i), .int u] d (some (.int 0)) (g_kf (g_th (g_bg d) 2)) := by
  refine x_start (cc := cX12_returnWick) (maxL := 3) (ret := (some .int)) (own := RX12) (by decide) rfl rfl (Nat.le_of_ble_eq_true rfl) (lst := [(0, .ref (x_b G + 175)), (1, .int (nI i)), (2, .int u)]) rfl ?_
  intro p e s m args below meth c C hr hlocks
  refine a_aload_n C dX12_returnWick_0 0 rfl ?_
  refine a_callV C (k := 175) (As := []) (rest := []) (c_M_begin l G d) (cwV 0 C.1.2.2.2.2 gX12_returnWick_X12_begin rfl rfl rfl (by decide +kernel) ⟨Nat.le_of_ble_eq_true rfl, Nat.le_of_ble_eq_true rfl⟩) x_k175 (q := (RX12, TX12, 16)) rfl rfl rfl rfl (Nat.le_of_ble_eq_true rfl) dX12_returnWick_1 ⟨Nat.le_of_ble_eq_true rfl, Nat.le_of_ble_eq_true rfl⟩ ?_
  refine a_aload_n C dX12_returnWick_4 0 rfl ?_
  refine a_aload_n C dX12_returnWick_5 0 rfl ?_
  refine a_iload_n C dX12_returnWick_6 1 rfl ?_
  refine a_iload_n C dX12_returnWick_7 2 rfl ?_
  refine a_iconst C dX12_returnWick_8 (v := -1) (by decide) ?_
  refine a_callV C (k := 175) (As := [.int (nI i), .int u, .int (-1)]) (rest := [.ref (x_b G + 175)]) (c_M_movesWick_2 l G (g_bg d) u (-1) i n hn h8 hi hu) (cwV 3 C.1.2.2.2.2 gX12_returnWick_X12_movesWick rfl rfl rfl (by decide +kernel) ⟨Nat.le_of_ble_eq_true rfl, Nat.le_of_ble_eq_true rfl⟩) x_k175 (q := (RX12, TX12, 16)) rfl rfl rfl rfl (Nat.le_of_ble_eq_true rfl) dX12_returnWick_9 ⟨Nat.le_of_ble_eq_true rfl, Nat.le_of_ble_eq_true rfl⟩ ?_
  refine a_callV C (k := 175) (As := [.int 0]) (rest := []) (c_M_kept_f l G (g_th (g_bg d) 2) 0 (show ¬ ((2 : Int32) = 0) by decide)) (cwV 1 C.1.2.2.2.2 gX12_returnWick_X12_kept rfl rfl rfl (by decide +kernel) ⟨Nat.le_of_ble_eq_true rfl, Nat.le_of_ble_eq_true rfl⟩) x_k175 (q := (RX12, TX12, 16)) rfl rfl rfl rfl (Nat.le_of_ble_eq_true rfl) dX12_returnWick_12 ⟨Nat.le_of_ble_eq_true rfl, Nat.le_of_ble_eq_true rfl⟩ ?_
  exact a_iret C hlocks hr dX12_returnWick_15 rfl rfl

set_option maxHeartbeats 1000000 in
set_option maxRecDepth 100000 in
theorem c_M_returnWick_3 (l : Launch) (G : xG) (d : xd) (u : Int32) (i n : Nat) (hn : d 176 0 = nI n) (h8 : n ≤ 8) (hi : i < n) (hu : 1 ≤ u ∧ u ≤ 9) (hq : ¬ ((0 ≤ d 176 (46 + i) + (-1) * u ∧ d 176 (46 + i) + (-1) * u ≤ 9) ∧ (0 ≤ d 176 4 - (-1) * u ∧ d 176 4 - (-1) * u ≤ 99))) : x_M G l yX12_returnWick wsX12_returnWick 4 0 0 [.ref (x_b G + 175), .int (nI i), .int u] d (some (.int 0)) (g_kf (g_th (g_bg d) 3)) := by
  refine x_start (cc := cX12_returnWick) (maxL := 3) (ret := (some .int)) (own := RX12) (by decide) rfl rfl (Nat.le_of_ble_eq_true rfl) (lst := [(0, .ref (x_b G + 175)), (1, .int (nI i)), (2, .int u)]) rfl ?_
  intro p e s m args below meth c C hr hlocks
  refine a_aload_n C dX12_returnWick_0 0 rfl ?_
  refine a_callV C (k := 175) (As := []) (rest := []) (c_M_begin l G d) (cwV 0 C.1.2.2.2.2 gX12_returnWick_X12_begin rfl rfl rfl (by decide +kernel) ⟨Nat.le_of_ble_eq_true rfl, Nat.le_of_ble_eq_true rfl⟩) x_k175 (q := (RX12, TX12, 16)) rfl rfl rfl rfl (Nat.le_of_ble_eq_true rfl) dX12_returnWick_1 ⟨Nat.le_of_ble_eq_true rfl, Nat.le_of_ble_eq_true rfl⟩ ?_
  refine a_aload_n C dX12_returnWick_4 0 rfl ?_
  refine a_aload_n C dX12_returnWick_5 0 rfl ?_
  refine a_iload_n C dX12_returnWick_6 1 rfl ?_
  refine a_iload_n C dX12_returnWick_7 2 rfl ?_
  refine a_iconst C dX12_returnWick_8 (v := -1) (by decide) ?_
  refine a_callV C (k := 175) (As := [.int (nI i), .int u, .int (-1)]) (rest := [.ref (x_b G + 175)]) (c_M_movesWick_3 l G (g_bg d) u (-1) i n hn h8 hi hu hq) (cwV 3 C.1.2.2.2.2 gX12_returnWick_X12_movesWick rfl rfl rfl (by decide +kernel) ⟨Nat.le_of_ble_eq_true rfl, Nat.le_of_ble_eq_true rfl⟩) x_k175 (q := (RX12, TX12, 16)) rfl rfl rfl rfl (Nat.le_of_ble_eq_true rfl) dX12_returnWick_9 ⟨Nat.le_of_ble_eq_true rfl, Nat.le_of_ble_eq_true rfl⟩ ?_
  refine a_callV C (k := 175) (As := [.int 0]) (rest := []) (c_M_kept_f l G (g_th (g_bg d) 3) 0 (show ¬ ((3 : Int32) = 0) by decide)) (cwV 1 C.1.2.2.2.2 gX12_returnWick_X12_kept rfl rfl rfl (by decide +kernel) ⟨Nat.le_of_ble_eq_true rfl, Nat.le_of_ble_eq_true rfl⟩) x_k175 (q := (RX12, TX12, 16)) rfl rfl rfl rfl (Nat.le_of_ble_eq_true rfl) dX12_returnWick_12 ⟨Nat.le_of_ble_eq_true rfl, Nat.le_of_ble_eq_true rfl⟩ ?_
  exact a_iret C hlocks hr dX12_returnWick_15 rfl rfl

set_option maxHeartbeats 1000000 in
set_option maxRecDepth 100000 in
theorem c_M_returnWick (l : Launch) (G : xG) (d : xd) (c9 : Nat) (hc : d 175 3 = nI c9) (h9 : c9 ≤ 8) (u : Int32) (i n : Nat) (hn : d 176 0 = nI n) (h8 : n ≤ 8) (hi : i < n) (hu : 1 ≤ u ∧ u ≤ 9) (hc1 : 0 ≤ d 176 (46 + i) + (-1) * u ∧ d 176 (46 + i) + (-1) * u ≤ 9) (hc2 : 0 ≤ d 176 4 - (-1) * u ∧ d 176 4 - (-1) * u ≤ 99) : x_M G l yX12_returnWick wsX12_returnWick 4 0 0 [.ref (x_b G + 175), .int (nI i), .int u] d (some (.int (d 176 (46 + i) + (-1) * u))) (g_kp (g_ok (g_bg d) (upd (upd (d 176) (46 + i) (d 176 (46 + i) + (-1) * u)) 4 (d 176 4 - (-1) * u))) c9) := by
  refine x_start (cc := cX12_returnWick) (maxL := 3) (ret := (some .int)) (own := RX12) (by decide) rfl rfl (Nat.le_of_ble_eq_true rfl) (lst := [(0, .ref (x_b G + 175)), (1, .int (nI i)), (2, .int u)]) rfl ?_
  intro p e s m args below meth c C hr hlocks
  refine a_aload_n C dX12_returnWick_0 0 rfl ?_
  refine a_callV C (k := 175) (As := []) (rest := []) (c_M_begin l G d) (cwV 0 C.1.2.2.2.2 gX12_returnWick_X12_begin rfl rfl rfl (by decide +kernel) ⟨Nat.le_of_ble_eq_true rfl, Nat.le_of_ble_eq_true rfl⟩) x_k175 (q := (RX12, TX12, 16)) rfl rfl rfl rfl (Nat.le_of_ble_eq_true rfl) dX12_returnWick_1 ⟨Nat.le_of_ble_eq_true rfl, Nat.le_of_ble_eq_true rfl⟩ ?_
  refine a_aload_n C dX12_returnWick_4 0 rfl ?_
  refine a_aload_n C dX12_returnWick_5 0 rfl ?_
  refine a_iload_n C dX12_returnWick_6 1 rfl ?_
  refine a_iload_n C dX12_returnWick_7 2 rfl ?_
  refine a_iconst C dX12_returnWick_8 (v := -1) (by decide) ?_
  refine a_callV C (k := 175) (As := [.int (nI i), .int u, .int (-1)]) (rest := [.ref (x_b G + 175)]) (c_M_movesWick l G (g_bg d) u (-1) i n hn h8 hi hu hc1 hc2) (cwV 3 C.1.2.2.2.2 gX12_returnWick_X12_movesWick rfl rfl rfl (by decide +kernel) ⟨Nat.le_of_ble_eq_true rfl, Nat.le_of_ble_eq_true rfl⟩) x_k175 (q := (RX12, TX12, 16)) rfl rfl rfl rfl (Nat.le_of_ble_eq_true rfl) dX12_returnWick_9 ⟨Nat.le_of_ble_eq_true rfl, Nat.le_of_ble_eq_true rfl⟩ ?_
  refine a_callV C (k := 175) (As := [.int (d 176 (46 + i) + (-1) * u)]) (rest := []) (c_M_kept l G (g_ok (g_bg d) (upd (upd (d 176) (46 + i) (d 176 (46 + i) + (-1) * u)) 4 (d 176 4 - (-1) * u))) ((d 176 (46 + i) + (-1) * u)) c9 rfl hc h9) (cwV 1 C.1.2.2.2.2 gX12_returnWick_X12_kept rfl rfl rfl (by decide +kernel) ⟨Nat.le_of_ble_eq_true rfl, Nat.le_of_ble_eq_true rfl⟩) x_k175 (q := (RX12, TX12, 16)) rfl rfl rfl rfl (Nat.le_of_ble_eq_true rfl) dX12_returnWick_12 ⟨Nat.le_of_ble_eq_true rfl, Nat.le_of_ble_eq_true rfl⟩ ?_
  exact a_iret C hlocks hr dX12_returnWick_15 rfl rfl

set_option maxHeartbeats 1000000 in
set_option maxRecDepth 100000 in
theorem c_M_payDividend_1 (l : Launch) (G : xG) (d : xd) (hx : d 176 0 = 0 ∨ d 176 5 = 0) : x_M G l yX12_payDividend wsX12_payDividend 6 0 0 [.ref (x_b G + 175)] d (some (.int 0)) (g_kf (g_th (g_bg d) 1)) := by
  refine x_start (cc := cX12_payDividend) (maxL := 1) (ret := (some .int)) (own := RX12) (by decide) rfl rfl (Nat.le_of_ble_eq_true rfl) (lst := [(0, .ref (x_b G + 175))]) rfl ?_
  intro p e s m args below meth c C hr hlocks
  refine a_aload_n C dX12_payDividend_0 0 rfl ?_
  refine a_callV C (k := 175) (As := []) (rest := []) (c_M_begin l G d) (cwV 0 C.1.2.2.2.2 gX12_payDividend_X12_begin rfl rfl rfl (by decide +kernel) ⟨Nat.le_of_ble_eq_true rfl, Nat.le_of_ble_eq_true rfl⟩) x_k175 (q := (RX12, TX12, 16)) rfl rfl rfl rfl (Nat.le_of_ble_eq_true rfl) dX12_payDividend_1 ⟨Nat.le_of_ble_eq_true rfl, Nat.le_of_ble_eq_true rfl⟩ ?_
  refine a_aload_n C dX12_payDividend_4 0 rfl ?_
  refine a_aload_n C dX12_payDividend_5 0 rfl ?_
  refine a_callV C (k := 175) (As := []) (rest := [.ref (x_b G + 175)]) (c_M_pays_1 l G (g_bg d) hx) (cwV 0 C.1.2.2.2.2 gX12_payDividend_X12_pays rfl rfl rfl (by decide +kernel) ⟨Nat.le_of_ble_eq_true rfl, Nat.le_of_ble_eq_true rfl⟩) x_k175 (q := (RX12, TX12, 16)) rfl rfl rfl rfl (Nat.le_of_ble_eq_true rfl) dX12_payDividend_6 ⟨Nat.le_of_ble_eq_true rfl, Nat.le_of_ble_eq_true rfl⟩ ?_
  refine a_callV C (k := 175) (As := [.int 0]) (rest := []) (c_M_kept_f l G (g_th (g_bg d) 1) 0 (show ¬ ((1 : Int32) = 0) by decide)) (cwV 1 C.1.2.2.2.2 gX12_payDividend_X12_kept rfl rfl rfl (by decide +kernel) ⟨Nat.le_of_ble_eq_true rfl, Nat.le_of_ble_eq_true rfl⟩) x_k175 (q := (RX12, TX12, 16)) rfl rfl rfl rfl (Nat.le_of_ble_eq_true rfl) dX12_payDividend_9 ⟨Nat.le_of_ble_eq_true rfl, Nat.le_of_ble_eq_true rfl⟩ ?_
  exact a_iret C hlocks hr dX12_payDividend_12 rfl rfl

set_option maxHeartbeats 1000000 in
set_option maxRecDepth 100000 in
theorem c_M_payDividend (l : Launch) (G : xG) (d : xd) (c9 : Nat) (hc : d 175 3 = nI c9) (h9 : c9 ≤ 8) (a0 : Nat) (sh : Nat → Nat) (n : Nat) (hn : d 176 0 = nI n) (h8 : n ≤ 8) (h1 : 1 ≤ n) (hs : ∀ j, j < n → d 176 (14 + j) = nI (sh j)) (hs9 : ∀ j, j < n → sh j ≤ 9) (hS : 1 ≤ f_sn sh n) (ha0 : a0 < 100000) (ht : d 176 5 = nI a0) (ha1 : 1 ≤ a0) : x_M G l yX12_payDividend wsX12_payDividend 6 0 0 [.ref (x_b G + 175)] d (some (.int (nI a0))) (g_kp (g_ok (g_bg d) (upd (g_py (d 176) (g_por a0 sh n) n) 5 0)) c9) := by
  refine x_start (cc := cX12_payDividend) (maxL := 1) (ret := (some .int)) (own := RX12) (by decide) rfl rfl (Nat.le_of_ble_eq_true rfl) (lst := [(0, .ref (x_b G + 175))]) rfl ?_
  intro p e s m args below meth c C hr hlocks
  refine a_aload_n C dX12_payDividend_0 0 rfl ?_
  refine a_callV C (k := 175) (As := []) (rest := []) (c_M_begin l G d) (cwV 0 C.1.2.2.2.2 gX12_payDividend_X12_begin rfl rfl rfl (by decide +kernel) ⟨Nat.le_of_ble_eq_true rfl, Nat.le_of_ble_eq_true rfl⟩) x_k175 (q := (RX12, TX12, 16)) rfl rfl rfl rfl (Nat.le_of_ble_eq_true rfl) dX12_payDividend_1 ⟨Nat.le_of_ble_eq_true rfl, Nat.le_of_ble_eq_true rfl⟩ ?_
  refine a_aload_n C dX12_payDividend_4 0 rfl ?_
  refine a_aload_n C dX12_payDividend_5 0 rfl ?_
  refine a_callV C (k := 175) (As := []) (rest := [.ref (x_b G + 175)]) (c_M_pays l G (g_bg d) a0 sh n hn h8 h1 hs hs9 hS ha0 ht ha1) (cwV 0 C.1.2.2.2.2 gX12_payDividend_X12_pays rfl rfl rfl (by decide +kernel) ⟨Nat.le_of_ble_eq_true rfl, Nat.le_of_ble_eq_true rfl⟩) x_k175 (q := (RX12, TX12, 16)) rfl rfl rfl rfl (Nat.le_of_ble_eq_true rfl) dX12_payDividend_6 ⟨Nat.le_of_ble_eq_true rfl, Nat.le_of_ble_eq_true rfl⟩ ?_
  refine a_callV C (k := 175) (As := [.int (nI a0)]) (rest := []) (c_M_kept l G (g_ok (g_bg d) (upd (g_py (d 176) (g_por a0 sh n) n) 5 0)) ((nI a0)) c9 rfl hc h9) (cwV 1 C.1.2.2.2.2 gX12_payDividend_X12_kept rfl rfl rfl (by decide +kernel) ⟨Nat.le_of_ble_eq_true rfl, Nat.le_of_ble_eq_true rfl⟩) x_k175 (q := (RX12, TX12, 16)) rfl rfl rfl rfl (Nat.le_of_ble_eq_true rfl) dX12_payDividend_9 ⟨Nat.le_of_ble_eq_true rfl, Nat.le_of_ble_eq_true rfl⟩ ?_
  exact a_iret C hlocks hr dX12_payDividend_12 rfl rfl

set_option maxHeartbeats 1000000 in
set_option maxRecDepth 100000 in
theorem c_M_addMoth_1 (l : Launch) (G : xG) (d : xd) (x : Int32) (n : Nat) (hn : d 176 0 = nI n) (h8 : n ≤ 8) (hx : ¬ (0 ≤ x ∧ x < nI n)) : x_M G l yX12_addMoth wsX12_addMoth 4 0 0 [.ref (x_b G + 175), .int x] d (some (.int 0)) (g_kf (g_th (g_bg d) 1)) := by
  refine x_start (cc := cX12_addMoth) (maxL := 2) (ret := (some .int)) (own := RX12) (by decide) rfl rfl (Nat.le_of_ble_eq_true rfl) (lst := [(0, .ref (x_b G + 175)), (1, .int x)]) rfl ?_
  intro p e s m args below meth c C hr hlocks
  refine a_aload_n C dX12_addMoth_0 0 rfl ?_
  refine a_callV C (k := 175) (As := []) (rest := []) (c_M_begin l G d) (cwV 0 C.1.2.2.2.2 gX12_addMoth_X12_begin rfl rfl rfl (by decide +kernel) ⟨Nat.le_of_ble_eq_true rfl, Nat.le_of_ble_eq_true rfl⟩) x_k175 (q := (RX12, TX12, 16)) rfl rfl rfl rfl (Nat.le_of_ble_eq_true rfl) dX12_addMoth_1 ⟨Nat.le_of_ble_eq_true rfl, Nat.le_of_ble_eq_true rfl⟩ ?_
  refine a_aload_n C dX12_addMoth_4 0 rfl ?_
  refine a_aload_n C dX12_addMoth_5 0 rfl ?_
  refine a_iload_n C dX12_addMoth_6 1 rfl ?_
  refine a_callV C (k := 175) (As := [.int x]) (rest := [.ref (x_b G + 175)]) (c_M_addsMoth_1 l G (g_bg d) x n hn h8 hx) (cwV 1 C.1.2.2.2.2 gX12_addMoth_X12_addsMoth rfl rfl rfl (by decide +kernel) ⟨Nat.le_of_ble_eq_true rfl, Nat.le_of_ble_eq_true rfl⟩) x_k175 (q := (RX12, TX12, 16)) rfl rfl rfl rfl (Nat.le_of_ble_eq_true rfl) dX12_addMoth_7 ⟨Nat.le_of_ble_eq_true rfl, Nat.le_of_ble_eq_true rfl⟩ ?_
  refine a_callV C (k := 175) (As := [.int 0]) (rest := []) (c_M_kept_f l G (g_th (g_bg d) 1) 0 (show ¬ ((1 : Int32) = 0) by decide)) (cwV 1 C.1.2.2.2.2 gX12_addMoth_X12_kept rfl rfl rfl (by decide +kernel) ⟨Nat.le_of_ble_eq_true rfl, Nat.le_of_ble_eq_true rfl⟩) x_k175 (q := (RX12, TX12, 16)) rfl rfl rfl rfl (Nat.le_of_ble_eq_true rfl) dX12_addMoth_10 ⟨Nat.le_of_ble_eq_true rfl, Nat.le_of_ble_eq_true rfl⟩ ?_
  exact a_iret C hlocks hr dX12_addMoth_13 rfl rfl

set_option maxHeartbeats 1000000 in
set_option maxRecDepth 100000 in
theorem c_M_addMoth_2 (l : Launch) (G : xG) (d : xd) (i n : Nat) (hn : d 176 0 = nI n) (h8 : n ≤ 8) (hi : i < n) (hq : d 176 1 = 6) : x_M G l yX12_addMoth wsX12_addMoth 4 0 0 [.ref (x_b G + 175), .int (nI i)] d (some (.int 0)) (g_kf (g_th (g_bg d) 2)) := by
  refine x_start (cc := cX12_addMoth) (maxL := 2) (ret := (some .int)) (own := RX12) (by decide) rfl rfl (Nat.le_of_ble_eq_true rfl) (lst := [(0, .ref (x_b G + 175)), (1, .int (nI i))]) rfl ?_
  intro p e s m args below meth c C hr hlocks
  refine a_aload_n C dX12_addMoth_0 0 rfl ?_
  refine a_callV C (k := 175) (As := []) (rest := []) (c_M_begin l G d) (cwV 0 C.1.2.2.2.2 gX12_addMoth_X12_begin rfl rfl rfl (by decide +kernel) ⟨Nat.le_of_ble_eq_true rfl, Nat.le_of_ble_eq_true rfl⟩) x_k175 (q := (RX12, TX12, 16)) rfl rfl rfl rfl (Nat.le_of_ble_eq_true rfl) dX12_addMoth_1 ⟨Nat.le_of_ble_eq_true rfl, Nat.le_of_ble_eq_true rfl⟩ ?_
  refine a_aload_n C dX12_addMoth_4 0 rfl ?_
  refine a_aload_n C dX12_addMoth_5 0 rfl ?_
  refine a_iload_n C dX12_addMoth_6 1 rfl ?_
  refine a_callV C (k := 175) (As := [.int (nI i)]) (rest := [.ref (x_b G + 175)]) (c_M_addsMoth_2 l G (g_bg d) i n hn h8 hi hq) (cwV 1 C.1.2.2.2.2 gX12_addMoth_X12_addsMoth rfl rfl rfl (by decide +kernel) ⟨Nat.le_of_ble_eq_true rfl, Nat.le_of_ble_eq_true rfl⟩) x_k175 (q := (RX12, TX12, 16)) rfl rfl rfl rfl (Nat.le_of_ble_eq_true rfl) dX12_addMoth_7 ⟨Nat.le_of_ble_eq_true rfl, Nat.le_of_ble_eq_true rfl⟩ ?_
  refine a_callV C (k := 175) (As := [.int 0]) (rest := []) (c_M_kept_f l G (g_th (g_bg d) 2) 0 (show ¬ ((2 : Int32) = 0) by decide)) (cwV 1 C.1.2.2.2.2 gX12_addMoth_X12_kept rfl rfl rfl (by decide +kernel) ⟨Nat.le_of_ble_eq_true rfl, Nat.le_of_ble_eq_true rfl⟩) x_k175 (q := (RX12, TX12, 16)) rfl rfl rfl rfl (Nat.le_of_ble_eq_true rfl) dX12_addMoth_10 ⟨Nat.le_of_ble_eq_true rfl, Nat.le_of_ble_eq_true rfl⟩ ?_
  exact a_iret C hlocks hr dX12_addMoth_13 rfl rfl

set_option maxHeartbeats 1000000 in
set_option maxRecDepth 100000 in
theorem c_M_addMoth (l : Launch) (G : xG) (d : xd) (c9 : Nat) (hc : d 175 3 = nI c9) (h9 : c9 ≤ 8) (i n : Nat) (hn : d 176 0 = nI n) (h8 : n ≤ 8) (hi : i < n) (q : Nat) (hq : d 176 1 = nI q) (h6 : q < 6) : x_M G l yX12_addMoth wsX12_addMoth 4 0 0 [.ref (x_b G + 175), .int (nI i)] d (some (.int (nI q))) (g_kp (g_ok (g_bg d) (g_addm (d 176) i q)) c9) := by
  refine x_start (cc := cX12_addMoth) (maxL := 2) (ret := (some .int)) (own := RX12) (by decide) rfl rfl (Nat.le_of_ble_eq_true rfl) (lst := [(0, .ref (x_b G + 175)), (1, .int (nI i))]) rfl ?_
  intro p e s m args below meth c C hr hlocks
  refine a_aload_n C dX12_addMoth_0 0 rfl ?_
  refine a_callV C (k := 175) (As := []) (rest := []) (c_M_begin l G d) (cwV 0 C.1.2.2.2.2 gX12_addMoth_X12_begin rfl rfl rfl (by decide +kernel) ⟨Nat.le_of_ble_eq_true rfl, Nat.le_of_ble_eq_true rfl⟩) x_k175 (q := (RX12, TX12, 16)) rfl rfl rfl rfl (Nat.le_of_ble_eq_true rfl) dX12_addMoth_1 ⟨Nat.le_of_ble_eq_true rfl, Nat.le_of_ble_eq_true rfl⟩ ?_
  refine a_aload_n C dX12_addMoth_4 0 rfl ?_
  refine a_aload_n C dX12_addMoth_5 0 rfl ?_
  refine a_iload_n C dX12_addMoth_6 1 rfl ?_
  refine a_callV C (k := 175) (As := [.int (nI i)]) (rest := [.ref (x_b G + 175)]) (c_M_addsMoth l G (g_bg d) i n hn h8 hi q hq h6) (cwV 1 C.1.2.2.2.2 gX12_addMoth_X12_addsMoth rfl rfl rfl (by decide +kernel) ⟨Nat.le_of_ble_eq_true rfl, Nat.le_of_ble_eq_true rfl⟩) x_k175 (q := (RX12, TX12, 16)) rfl rfl rfl rfl (Nat.le_of_ble_eq_true rfl) dX12_addMoth_7 ⟨Nat.le_of_ble_eq_true rfl, Nat.le_of_ble_eq_true rfl⟩ ?_
  refine a_callV C (k := 175) (As := [.int (nI q)]) (rest := []) (c_M_kept l G (g_ok (g_bg d) (g_addm (d 176) i q)) ((nI q)) c9 rfl hc h9) (cwV 1 C.1.2.2.2.2 gX12_addMoth_X12_kept rfl rfl rfl (by decide +kernel) ⟨Nat.le_of_ble_eq_true rfl, Nat.le_of_ble_eq_true rfl⟩) x_k175 (q := (RX12, TX12, 16)) rfl rfl rfl rfl (Nat.le_of_ble_eq_true rfl) dX12_addMoth_10 ⟨Nat.le_of_ble_eq_true rfl, Nat.le_of_ble_eq_true rfl⟩ ?_
  exact a_iret C hlocks hr dX12_addMoth_13 rfl rfl

set_option maxHeartbeats 1000000 in
set_option maxRecDepth 100000 in
theorem c_M_moveMoth_1 (l : Launch) (G : xG) (d : xd) (x : Int32) (q : Nat) (hq : d 176 1 = nI q) (h6 : q ≤ 6) (hx : ¬ (0 ≤ x ∧ x < nI q)) (y : Int32) : x_M G l yX12_moveMoth wsX12_moveMoth 4 0 0 [.ref (x_b G + 175), .int x, .int y] d (some (.int 0)) (g_kf (g_th (g_bg d) 1)) := by
  refine x_start (cc := cX12_moveMoth) (maxL := 3) (ret := (some .int)) (own := RX12) (by decide) rfl rfl (Nat.le_of_ble_eq_true rfl) (lst := [(0, .ref (x_b G + 175)), (1, .int x), (2, .int y)]) rfl ?_
  intro p e s m args below meth c C hr hlocks
  refine a_aload_n C dX12_moveMoth_0 0 rfl ?_
  refine a_callV C (k := 175) (As := []) (rest := []) (c_M_begin l G d) (cwV 0 C.1.2.2.2.2 gX12_moveMoth_X12_begin rfl rfl rfl (by decide +kernel) ⟨Nat.le_of_ble_eq_true rfl, Nat.le_of_ble_eq_true rfl⟩) x_k175 (q := (RX12, TX12, 16)) rfl rfl rfl rfl (Nat.le_of_ble_eq_true rfl) dX12_moveMoth_1 ⟨Nat.le_of_ble_eq_true rfl, Nat.le_of_ble_eq_true rfl⟩ ?_
  refine a_aload_n C dX12_moveMoth_4 0 rfl ?_
  refine a_aload_n C dX12_moveMoth_5 0 rfl ?_
  refine a_iload_n C dX12_moveMoth_6 1 rfl ?_
  refine a_iload_n C dX12_moveMoth_7 2 rfl ?_
  refine a_callV C (k := 175) (As := [.int x, .int y]) (rest := [.ref (x_b G + 175)]) (c_M_movesMoth_1 l G (g_bg d) x q hq h6 hx y) (cwV 2 C.1.2.2.2.2 gX12_moveMoth_X12_movesMoth rfl rfl rfl (by decide +kernel) ⟨Nat.le_of_ble_eq_true rfl, Nat.le_of_ble_eq_true rfl⟩) x_k175 (q := (RX12, TX12, 16)) rfl rfl rfl rfl (Nat.le_of_ble_eq_true rfl) dX12_moveMoth_8 ⟨Nat.le_of_ble_eq_true rfl, Nat.le_of_ble_eq_true rfl⟩ ?_
  refine a_callV C (k := 175) (As := [.int 0]) (rest := []) (c_M_kept_f l G (g_th (g_bg d) 1) 0 (show ¬ ((1 : Int32) = 0) by decide)) (cwV 1 C.1.2.2.2.2 gX12_moveMoth_X12_kept rfl rfl rfl (by decide +kernel) ⟨Nat.le_of_ble_eq_true rfl, Nat.le_of_ble_eq_true rfl⟩) x_k175 (q := (RX12, TX12, 16)) rfl rfl rfl rfl (Nat.le_of_ble_eq_true rfl) dX12_moveMoth_11 ⟨Nat.le_of_ble_eq_true rfl, Nat.le_of_ble_eq_true rfl⟩ ?_
  exact a_iret C hlocks hr dX12_moveMoth_14 rfl rfl

set_option maxHeartbeats 1000000 in
set_option maxRecDepth 100000 in
theorem c_M_moveMoth_2 (l : Launch) (G : xG) (d : xd) (i q : Nat) (hq : d 176 1 = nI q) (h6 : q ≤ 6) (hi : i < q) (x : Int32) (n : Nat) (hn : d 176 0 = nI n) (h8 : n ≤ 8) (hx : ¬ (0 ≤ x ∧ x < nI n)) (hx1 : ¬ x = -1) : x_M G l yX12_moveMoth wsX12_moveMoth 4 0 0 [.ref (x_b G + 175), .int (nI i), .int x] d (some (.int 0)) (g_kf (g_th (g_bg d) 1)) := by
  refine x_start (cc := cX12_moveMoth) (maxL := 3) (ret := (some .int)) (own := RX12) (by decide) rfl rfl (Nat.le_of_ble_eq_true rfl) (lst := [(0, .ref (x_b G + 175)), (1, .int (nI i)), (2, .int x)]) rfl ?_
  intro p e s m args below meth c C hr hlocks
  refine a_aload_n C dX12_moveMoth_0 0 rfl ?_
  refine a_callV C (k := 175) (As := []) (rest := []) (c_M_begin l G d) (cwV 0 C.1.2.2.2.2 gX12_moveMoth_X12_begin rfl rfl rfl (by decide +kernel) ⟨Nat.le_of_ble_eq_true rfl, Nat.le_of_ble_eq_true rfl⟩) x_k175 (q := (RX12, TX12, 16)) rfl rfl rfl rfl (Nat.le_of_ble_eq_true rfl) dX12_moveMoth_1 ⟨Nat.le_of_ble_eq_true rfl, Nat.le_of_ble_eq_true rfl⟩ ?_
  refine a_aload_n C dX12_moveMoth_4 0 rfl ?_
  refine a_aload_n C dX12_moveMoth_5 0 rfl ?_
  refine a_iload_n C dX12_moveMoth_6 1 rfl ?_
  refine a_iload_n C dX12_moveMoth_7 2 rfl ?_
  refine a_callV C (k := 175) (As := [.int (nI i), .int x]) (rest := [.ref (x_b G + 175)]) (c_M_movesMoth_2 l G (g_bg d) i q hq h6 hi x n hn h8 hx hx1) (cwV 2 C.1.2.2.2.2 gX12_moveMoth_X12_movesMoth rfl rfl rfl (by decide +kernel) ⟨Nat.le_of_ble_eq_true rfl, Nat.le_of_ble_eq_true rfl⟩) x_k175 (q := (RX12, TX12, 16)) rfl rfl rfl rfl (Nat.le_of_ble_eq_true rfl) dX12_moveMoth_8 ⟨Nat.le_of_ble_eq_true rfl, Nat.le_of_ble_eq_true rfl⟩ ?_
  refine a_callV C (k := 175) (As := [.int 0]) (rest := []) (c_M_kept_f l G (g_th (g_bg d) 1) 0 (show ¬ ((1 : Int32) = 0) by decide)) (cwV 1 C.1.2.2.2.2 gX12_moveMoth_X12_kept rfl rfl rfl (by decide +kernel) ⟨Nat.le_of_ble_eq_true rfl, Nat.le_of_ble_eq_true rfl⟩) x_k175 (q := (RX12, TX12, 16)) rfl rfl rfl rfl (Nat.le_of_ble_eq_true rfl) dX12_moveMoth_11 ⟨Nat.le_of_ble_eq_true rfl, Nat.le_of_ble_eq_true rfl⟩ ?_
  exact a_iret C hlocks hr dX12_moveMoth_14 rfl rfl

set_option maxHeartbeats 1000000 in
set_option maxRecDepth 100000 in
theorem c_M_moveMoth (l : Launch) (G : xG) (d : xd) (c9 : Nat) (hc : d 175 3 = nI c9) (h9 : c9 ≤ 8) (i q : Nat) (hq : d 176 1 = nI q) (h6 : q ≤ 6) (hi : i < q) (x : Int32) (n : Nat) (hn : d 176 0 = nI n) (h8 : n ≤ 8) (hx : (0 ≤ x ∧ x < nI n) ∨ x = -1) : x_M G l yX12_moveMoth wsX12_moveMoth 4 0 0 [.ref (x_b G + 175), .int (nI i), .int x] d (some (.int (d 176 (62 + i) - 1))) (g_kp (g_ok (g_bg d) (upd (d 176) (62 + i) (x + 1))) c9) := by
  refine x_start (cc := cX12_moveMoth) (maxL := 3) (ret := (some .int)) (own := RX12) (by decide) rfl rfl (Nat.le_of_ble_eq_true rfl) (lst := [(0, .ref (x_b G + 175)), (1, .int (nI i)), (2, .int x)]) rfl ?_
  intro p e s m args below meth c C hr hlocks
  refine a_aload_n C dX12_moveMoth_0 0 rfl ?_
  refine a_callV C (k := 175) (As := []) (rest := []) (c_M_begin l G d) (cwV 0 C.1.2.2.2.2 gX12_moveMoth_X12_begin rfl rfl rfl (by decide +kernel) ⟨Nat.le_of_ble_eq_true rfl, Nat.le_of_ble_eq_true rfl⟩) x_k175 (q := (RX12, TX12, 16)) rfl rfl rfl rfl (Nat.le_of_ble_eq_true rfl) dX12_moveMoth_1 ⟨Nat.le_of_ble_eq_true rfl, Nat.le_of_ble_eq_true rfl⟩ ?_
  refine a_aload_n C dX12_moveMoth_4 0 rfl ?_
  refine a_aload_n C dX12_moveMoth_5 0 rfl ?_
  refine a_iload_n C dX12_moveMoth_6 1 rfl ?_
  refine a_iload_n C dX12_moveMoth_7 2 rfl ?_
  refine a_callV C (k := 175) (As := [.int (nI i), .int x]) (rest := [.ref (x_b G + 175)]) (c_M_movesMoth l G (g_bg d) i q hq h6 hi x n hn h8 hx) (cwV 2 C.1.2.2.2.2 gX12_moveMoth_X12_movesMoth rfl rfl rfl (by decide +kernel) ⟨Nat.le_of_ble_eq_true rfl, Nat.le_of_ble_eq_true rfl⟩) x_k175 (q := (RX12, TX12, 16)) rfl rfl rfl rfl (Nat.le_of_ble_eq_true rfl) dX12_moveMoth_8 ⟨Nat.le_of_ble_eq_true rfl, Nat.le_of_ble_eq_true rfl⟩ ?_
  refine a_callV C (k := 175) (As := [.int (d 176 (62 + i) - 1)]) (rest := []) (c_M_kept l G (g_ok (g_bg d) (upd (d 176) (62 + i) (x + 1))) ((d 176 (62 + i) - 1)) c9 rfl hc h9) (cwV 1 C.1.2.2.2.2 gX12_moveMoth_X12_kept rfl rfl rfl (by decide +kernel) ⟨Nat.le_of_ble_eq_true rfl, Nat.le_of_ble_eq_true rfl⟩) x_k175 (q := (RX12, TX12, 16)) rfl rfl rfl rfl (Nat.le_of_ble_eq_true rfl) dX12_moveMoth_11 ⟨Nat.le_of_ble_eq_true rfl, Nat.le_of_ble_eq_true rfl⟩ ?_
  exact a_iret C hlocks hr dX12_moveMoth_14 rfl rfl

set_option maxHeartbeats 1000000 in
set_option maxRecDepth 100000 in
theorem c_M_burnNight (l : Launch) (G : xG) (d : xd) (c9 : Nat) (hc : d 175 3 = nI c9) (h9 : c9 ≤ 8) (n : Nat) (hn : d 176 0 = nI n) (h8 : n ≤ 8) (q : Nat) (hq : d 176 1 = nI q) (h6 : q ≤ 6) (hcr : ∀ k, k < q → d 176 (62 + k) - 1 = -1 ∨ ∃ w, w < n ∧ d 176 (62 + k) - 1 = nI w) : x_M G l yX12_burnNight wsX12_burnNight 5 0 0 [.ref (x_b G + 175)] d (some (.int (g_cn (g_rdy (d 176)) n))) (g_kp (g_ok (g_bg d) (g_ngt (d 176) n q)) c9) := by
  refine x_start (cc := cX12_burnNight) (maxL := 1) (ret := (some .int)) (own := RX12) (by decide) rfl rfl (Nat.le_of_ble_eq_true rfl) (lst := [(0, .ref (x_b G + 175))]) rfl ?_
  intro p e s m args below meth c C hr hlocks
  refine a_aload_n C dX12_burnNight_0 0 rfl ?_
  refine a_callV C (k := 175) (As := []) (rest := []) (c_M_begin l G d) (cwV 0 C.1.2.2.2.2 gX12_burnNight_X12_begin rfl rfl rfl (by decide +kernel) ⟨Nat.le_of_ble_eq_true rfl, Nat.le_of_ble_eq_true rfl⟩) x_k175 (q := (RX12, TX12, 16)) rfl rfl rfl rfl (Nat.le_of_ble_eq_true rfl) dX12_burnNight_1 ⟨Nat.le_of_ble_eq_true rfl, Nat.le_of_ble_eq_true rfl⟩ ?_
  refine a_aload_n C dX12_burnNight_4 0 rfl ?_
  refine a_aload_n C dX12_burnNight_5 0 rfl ?_
  refine a_callV C (k := 175) (As := []) (rest := [.ref (x_b G + 175)]) (c_M_passesNight l G (g_bg d) n hn h8 q hq h6 hcr) (cwV 0 C.1.2.2.2.2 gX12_burnNight_X12_passesNight rfl rfl rfl (by decide +kernel) ⟨Nat.le_of_ble_eq_true rfl, Nat.le_of_ble_eq_true rfl⟩) x_k175 (q := (RX12, TX12, 16)) rfl rfl rfl rfl (Nat.le_of_ble_eq_true rfl) dX12_burnNight_6 ⟨Nat.le_of_ble_eq_true rfl, Nat.le_of_ble_eq_true rfl⟩ ?_
  refine a_callV C (k := 175) (As := [.int (g_cn (g_rdy (d 176)) n)]) (rest := []) (c_M_kept l G (g_ok (g_bg d) (g_ngt (d 176) n q)) ((g_cn (g_rdy (d 176)) n)) c9 rfl hc h9) (cwV 1 C.1.2.2.2.2 gX12_burnNight_X12_kept rfl rfl rfl (by decide +kernel) ⟨Nat.le_of_ble_eq_true rfl, Nat.le_of_ble_eq_true rfl⟩) x_k175 (q := (RX12, TX12, 16)) rfl rfl rfl rfl (Nat.le_of_ble_eq_true rfl) dX12_burnNight_9 ⟨Nat.le_of_ble_eq_true rfl, Nat.le_of_ble_eq_true rfl⟩ ?_
  exact a_iret C hlocks hr dX12_burnNight_12 rfl rfl

set_option maxHeartbeats 1000000 in
set_option maxRecDepth 100000 in
theorem c_M_proposeCap_1 (l : Launch) (G : xG) (d : xd) (x : Int32) (hx : ¬ (1 ≤ x ∧ x ≤ 5)) : x_M G l yX12_proposeCap wsX12_proposeCap 5 0 0 [.ref (x_b G + 175), .int x] d (some (.int 0)) (g_kf (g_th (g_bg d) 1)) := by
  refine x_start (cc := cX12_proposeCap) (maxL := 2) (ret := (some .boolean)) (own := RX12) (by decide) rfl rfl (Nat.le_of_ble_eq_true rfl) (lst := [(0, .ref (x_b G + 175)), (1, .int x)]) rfl ?_
  intro p e s m args below meth c C hr hlocks
  refine a_aload_n C dX12_proposeCap_0 0 rfl ?_
  refine a_callV C (k := 175) (As := []) (rest := []) (c_M_begin l G d) (cwV 0 C.1.2.2.2.2 gX12_proposeCap_X12_begin rfl rfl rfl (by decide +kernel) ⟨Nat.le_of_ble_eq_true rfl, Nat.le_of_ble_eq_true rfl⟩) x_k175 (q := (RX12, TX12, 16)) rfl rfl rfl rfl (Nat.le_of_ble_eq_true rfl) dX12_proposeCap_1 ⟨Nat.le_of_ble_eq_true rfl, Nat.le_of_ble_eq_true rfl⟩ ?_
  refine a_aload_n C dX12_proposeCap_4 0 rfl ?_
  refine a_aload_n C dX12_proposeCap_5 0 rfl ?_
  refine a_iload_n C dX12_proposeCap_6 1 rfl ?_
  refine a_callV C (k := 175) (As := [.int x]) (rest := [.ref (x_b G + 175)]) (c_M_proposes_1 l G (g_bg d) x hx) (cwV 1 C.1.2.2.2.2 gX12_proposeCap_X12_proposes rfl rfl rfl (by decide +kernel) ⟨Nat.le_of_ble_eq_true rfl, Nat.le_of_ble_eq_true rfl⟩) x_k175 (q := (RX12, TX12, 16)) rfl rfl rfl rfl (Nat.le_of_ble_eq_true rfl) dX12_proposeCap_7 ⟨Nat.le_of_ble_eq_true rfl, Nat.le_of_ble_eq_true rfl⟩ ?_
  refine a_callV C (k := 175) (As := [.int 0]) (rest := []) (c_M_kept_f l G (g_th (g_bg d) 1) 0 (show ¬ ((1 : Int32) = 0) by decide)) (cwV 1 C.1.2.2.2.2 gX12_proposeCap_X12_kept rfl rfl rfl (by decide +kernel) ⟨Nat.le_of_ble_eq_true rfl, Nat.le_of_ble_eq_true rfl⟩) x_k175 (q := (RX12, TX12, 16)) rfl rfl rfl rfl (Nat.le_of_ble_eq_true rfl) dX12_proposeCap_10 ⟨Nat.le_of_ble_eq_true rfl, Nat.le_of_ble_eq_true rfl⟩ ?_
  refine a_iconst C dX12_proposeCap_13 (v := 1) (by decide) ?_
  refine a_icmp_ne C dX12_proposeCap_14 (tgt := 21) (by decide) (fun _ => ?_) (fun h => absurd h (by decide))
  refine a_iconst C dX12_proposeCap_21 (v := 0) (by decide) ?_
  exact a_zret C hlocks hr rfl dX12_proposeCap_22 rfl rfl

set_option maxHeartbeats 1000000 in
set_option maxRecDepth 100000 in
theorem c_M_proposeCap_2 (l : Launch) (G : xG) (d : xd) (x : Int32) (hx : 1 ≤ x ∧ x ≤ 5) (hn : d 176 0 = 0) : x_M G l yX12_proposeCap wsX12_proposeCap 5 0 0 [.ref (x_b G + 175), .int x] d (some (.int 0)) (g_kf (g_th (g_bg d) 2)) := by
  refine x_start (cc := cX12_proposeCap) (maxL := 2) (ret := (some .boolean)) (own := RX12) (by decide) rfl rfl (Nat.le_of_ble_eq_true rfl) (lst := [(0, .ref (x_b G + 175)), (1, .int x)]) rfl ?_
  intro p e s m args below meth c C hr hlocks
  refine a_aload_n C dX12_proposeCap_0 0 rfl ?_
  refine a_callV C (k := 175) (As := []) (rest := []) (c_M_begin l G d) (cwV 0 C.1.2.2.2.2 gX12_proposeCap_X12_begin rfl rfl rfl (by decide +kernel) ⟨Nat.le_of_ble_eq_true rfl, Nat.le_of_ble_eq_true rfl⟩) x_k175 (q := (RX12, TX12, 16)) rfl rfl rfl rfl (Nat.le_of_ble_eq_true rfl) dX12_proposeCap_1 ⟨Nat.le_of_ble_eq_true rfl, Nat.le_of_ble_eq_true rfl⟩ ?_
  refine a_aload_n C dX12_proposeCap_4 0 rfl ?_
  refine a_aload_n C dX12_proposeCap_5 0 rfl ?_
  refine a_iload_n C dX12_proposeCap_6 1 rfl ?_
  refine a_callV C (k := 175) (As := [.int x]) (rest := [.ref (x_b G + 175)]) (c_M_proposes_2 l G (g_bg d) x hx hn) (cwV 1 C.1.2.2.2.2 gX12_proposeCap_X12_proposes rfl rfl rfl (by decide +kernel) ⟨Nat.le_of_ble_eq_true rfl, Nat.le_of_ble_eq_true rfl⟩) x_k175 (q := (RX12, TX12, 16)) rfl rfl rfl rfl (Nat.le_of_ble_eq_true rfl) dX12_proposeCap_7 ⟨Nat.le_of_ble_eq_true rfl, Nat.le_of_ble_eq_true rfl⟩ ?_
  refine a_callV C (k := 175) (As := [.int 0]) (rest := []) (c_M_kept_f l G (g_th (g_bg d) 2) 0 (show ¬ ((2 : Int32) = 0) by decide)) (cwV 1 C.1.2.2.2.2 gX12_proposeCap_X12_kept rfl rfl rfl (by decide +kernel) ⟨Nat.le_of_ble_eq_true rfl, Nat.le_of_ble_eq_true rfl⟩) x_k175 (q := (RX12, TX12, 16)) rfl rfl rfl rfl (Nat.le_of_ble_eq_true rfl) dX12_proposeCap_10 ⟨Nat.le_of_ble_eq_true rfl, Nat.le_of_ble_eq_true rfl⟩ ?_
  refine a_iconst C dX12_proposeCap_13 (v := 1) (by decide) ?_
  refine a_icmp_ne C dX12_proposeCap_14 (tgt := 21) (by decide) (fun _ => ?_) (fun h => absurd h (by decide))
  refine a_iconst C dX12_proposeCap_21 (v := 0) (by decide) ?_
  exact a_zret C hlocks hr rfl dX12_proposeCap_22 rfl rfl

set_option maxHeartbeats 1000000 in
set_option maxRecDepth 100000 in
theorem c_M_proposeCap_n (l : Launch) (G : xG) (d : xd) (c9 : Nat) (hc : d 175 3 = nI c9) (h9 : c9 ≤ 8) (x : Int32) (hx : 1 ≤ x ∧ x ≤ 5) (n : Nat) (hn : d 176 0 = nI n) (h8 : n ≤ 8) (h1 : 1 ≤ n) (hq : ¬ g_car (d 176) n x = true) : x_M G l yX12_proposeCap wsX12_proposeCap 5 0 0 [.ref (x_b G + 175), .int x] d (some (.int 0)) (g_kp (g_th (g_bg d) 0) c9) := by
  refine x_start (cc := cX12_proposeCap) (maxL := 2) (ret := (some .boolean)) (own := RX12) (by decide) rfl rfl (Nat.le_of_ble_eq_true rfl) (lst := [(0, .ref (x_b G + 175)), (1, .int x)]) rfl ?_
  intro p e s m args below meth c C hr hlocks
  refine a_aload_n C dX12_proposeCap_0 0 rfl ?_
  refine a_callV C (k := 175) (As := []) (rest := []) (c_M_begin l G d) (cwV 0 C.1.2.2.2.2 gX12_proposeCap_X12_begin rfl rfl rfl (by decide +kernel) ⟨Nat.le_of_ble_eq_true rfl, Nat.le_of_ble_eq_true rfl⟩) x_k175 (q := (RX12, TX12, 16)) rfl rfl rfl rfl (Nat.le_of_ble_eq_true rfl) dX12_proposeCap_1 ⟨Nat.le_of_ble_eq_true rfl, Nat.le_of_ble_eq_true rfl⟩ ?_
  refine a_aload_n C dX12_proposeCap_4 0 rfl ?_
  refine a_aload_n C dX12_proposeCap_5 0 rfl ?_
  refine a_iload_n C dX12_proposeCap_6 1 rfl ?_
  refine a_callV C (k := 175) (As := [.int x]) (rest := [.ref (x_b G + 175)]) (c_M_proposes_n l G (g_bg d) x hx n hn h8 h1 hq) (cwV 1 C.1.2.2.2.2 gX12_proposeCap_X12_proposes rfl rfl rfl (by decide +kernel) ⟨Nat.le_of_ble_eq_true rfl, Nat.le_of_ble_eq_true rfl⟩) x_k175 (q := (RX12, TX12, 16)) rfl rfl rfl rfl (Nat.le_of_ble_eq_true rfl) dX12_proposeCap_7 ⟨Nat.le_of_ble_eq_true rfl, Nat.le_of_ble_eq_true rfl⟩ ?_
  refine a_callV C (k := 175) (As := [.int 0]) (rest := []) (c_M_kept l G (g_th (g_bg d) 0) 0 c9 rfl hc h9) (cwV 1 C.1.2.2.2.2 gX12_proposeCap_X12_kept rfl rfl rfl (by decide +kernel) ⟨Nat.le_of_ble_eq_true rfl, Nat.le_of_ble_eq_true rfl⟩) x_k175 (q := (RX12, TX12, 16)) rfl rfl rfl rfl (Nat.le_of_ble_eq_true rfl) dX12_proposeCap_10 ⟨Nat.le_of_ble_eq_true rfl, Nat.le_of_ble_eq_true rfl⟩ ?_
  refine a_iconst C dX12_proposeCap_13 (v := 1) (by decide) ?_
  refine a_icmp_ne C dX12_proposeCap_14 (tgt := 21) (by decide) (fun _ => ?_) (fun h => absurd h (by decide))
  refine a_iconst C dX12_proposeCap_21 (v := 0) (by decide) ?_
  exact a_zret C hlocks hr rfl dX12_proposeCap_22 rfl rfl

set_option maxHeartbeats 1000000 in
set_option maxRecDepth 100000 in
theorem c_M_proposeCap (l : Launch) (G : xG) (d : xd) (c9 : Nat) (hc : d 175 3 = nI c9) (h9 : c9 ≤ 8) (x : Int32) (hx : 1 ≤ x ∧ x ≤ 5) (n : Nat) (hn : d 176 0 = nI n) (h8 : n ≤ 8) (h1 : 1 ≤ n) (hq : g_car (d 176) n x = true) : x_M G l yX12_proposeCap wsX12_proposeCap 5 0 0 [.ref (x_b G + 175), .int x] d (some (.int 1)) (g_kp (g_ok (g_bg d) (g_cap (d 176) x n)) c9) := by
  refine x_start (cc := cX12_proposeCap) (maxL := 2) (ret := (some .boolean)) (own := RX12) (by decide) rfl rfl (Nat.le_of_ble_eq_true rfl) (lst := [(0, .ref (x_b G + 175)), (1, .int x)]) rfl ?_
  intro p e s m args below meth c C hr hlocks
  refine a_aload_n C dX12_proposeCap_0 0 rfl ?_
  refine a_callV C (k := 175) (As := []) (rest := []) (c_M_begin l G d) (cwV 0 C.1.2.2.2.2 gX12_proposeCap_X12_begin rfl rfl rfl (by decide +kernel) ⟨Nat.le_of_ble_eq_true rfl, Nat.le_of_ble_eq_true rfl⟩) x_k175 (q := (RX12, TX12, 16)) rfl rfl rfl rfl (Nat.le_of_ble_eq_true rfl) dX12_proposeCap_1 ⟨Nat.le_of_ble_eq_true rfl, Nat.le_of_ble_eq_true rfl⟩ ?_
  refine a_aload_n C dX12_proposeCap_4 0 rfl ?_
  refine a_aload_n C dX12_proposeCap_5 0 rfl ?_
  refine a_iload_n C dX12_proposeCap_6 1 rfl ?_
  refine a_callV C (k := 175) (As := [.int x]) (rest := [.ref (x_b G + 175)]) (c_M_proposes l G (g_bg d) x hx n hn h8 h1 hq) (cwV 1 C.1.2.2.2.2 gX12_proposeCap_X12_proposes rfl rfl rfl (by decide +kernel) ⟨Nat.le_of_ble_eq_true rfl, Nat.le_of_ble_eq_true rfl⟩) x_k175 (q := (RX12, TX12, 16)) rfl rfl rfl rfl (Nat.le_of_ble_eq_true rfl) dX12_proposeCap_7 ⟨Nat.le_of_ble_eq_true rfl, Nat.le_of_ble_eq_true rfl⟩ ?_
  refine a_callV C (k := 175) (As := [.int 1]) (rest := []) (c_M_kept l G (g_ok (g_bg d) (g_cap (d 176) x n)) 1 c9 rfl hc h9) (cwV 1 C.1.2.2.2.2 gX12_proposeCap_X12_kept rfl rfl rfl (by decide +kernel) ⟨Nat.le_of_ble_eq_true rfl, Nat.le_of_ble_eq_true rfl⟩) x_k175 (q := (RX12, TX12, 16)) rfl rfl rfl rfl (Nat.le_of_ble_eq_true rfl) dX12_proposeCap_10 ⟨Nat.le_of_ble_eq_true rfl, Nat.le_of_ble_eq_true rfl⟩ ?_
  refine a_iconst C dX12_proposeCap_13 (v := 1) (by decide) ?_
  refine a_icmp_ne C dX12_proposeCap_14 (tgt := 21) (by decide) (fun h => absurd h (by decide)) (fun _ => ?_)
  refine a_iconst C dX12_proposeCap_17 (v := 1) (by decide) ?_
  refine a_goto C dX12_proposeCap_18 (tgt := 22) (by decide) ?_
  exact a_zret C hlocks hr rfl dX12_proposeCap_22 rfl rfl

