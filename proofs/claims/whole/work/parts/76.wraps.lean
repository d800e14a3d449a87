-- STAND-INS
theorem n : True := trivial
theorem i : True := trivial
theorem k : True := trivial
theorem q : True := trivial
theorem u : True := trivial
theorem v : True := trivial
theorem w : True := trivial
theorem j : True := trivial
theorem o : True := trivial
theorem a : True := trivial
theorem b : True := trivial
theorem y : True := trivial
theorem z : True := trivial
theorem r : True := trivial
theorem t : True := trivial
theorem f : True := trivial
theorem g : True := trivial
theorem o2 : True := trivial
theorem a2 : True := trivial
theorem hlt : True := trivial
theorem hltk : True := trivial
theorem hlt3 : True := trivial
theorem hlt4 : True := trivial
theorem hn : True := trivial
theorem hq : True := trivial
theorem hm : True := trivial
theorem hi : True := trivial
theorem hi2 : True := trivial
theorem hi3 : True := trivial
theorem hk : True := trivial
theorem hj : True := trivial
theorem hb : True := trivial
theorem hs : True := trivial
theorem hw : True := trivial
theorem hx : True := trivial
theorem hz : True := trivial
theorem hv : True := trivial
theorem hr : True := trivial
theorem hc : True := trivial
theorem hu : True := trivial
theorem hp : True := trivial
theorem hl : True := trivial
theorem hh : True := trivial
theorem e : True := trivial
theorem e9 : True := trivial
theorem sh : True := trivial
theorem a0 : True := trivial
theorem c9 : True := trivial
theorem k9 : True := trivial
theorem m9 : True := trivial
theorem mm : True := trivial
theorem ha : True := trivial
theorem ho : True := trivial
theorem hS : True := trivial
theorem ha0 : True := trivial
theorem hs9 : True := trivial
theorem hk0 : True := trivial
theorem hk1 : True := trivial
theorem hk9 : True := trivial
theorem hap : True := trivial
theorem hoo : True := trivial
theorem qh : True := trivial
theorem ex : True := trivial
theorem ih : True := trivial
theorem ihk : True := trivial
theorem ih1 : True := trivial
theorem ih2 : True := trivial
theorem ih3 : True := trivial
theorem ih4 : True := trivial
theorem ihj : True := trivial
theorem st : True := trivial
theorem lst : True := trivial
theorem args0 : True := trivial
theorem hcn : True := trivial
theorem hcir : True := trivial
theorem q8 : True := trivial
theorem z8 : True := trivial
theorem h0 : True := trivial
theorem h1 : True := trivial
theorem h2 : True := trivial
theorem h3 : True := trivial
theorem h4 : True := trivial
theorem h5 : True := trivial
theorem h7 : True := trivial
theorem h10 : True := trivial
theorem h11 : True := trivial
theorem h12 : True := trivial
theorem h13 : True := trivial
theorem h14 : True := trivial
theorem h15 : True := trivial
theorem h16 : True := trivial
theorem h17 : True := trivial
theorem h18 : True := trivial
theorem h19 : True := trivial
theorem h20 : True := trivial
theorem h21 : True := trivial
theorem h22 : True := trivial
theorem h23 : True := trivial
theorem h24 : True := trivial
theorem h25 : True := trivial
theorem h26 : True := trivial
theorem h27 : True := trivial
theorem h28 : True := trivial
theorem h29 : True := trivial
theorem h30 : True := trivial
theorem h31 : True := trivial
theorem h32 : True := trivial
theorem h33 : True := trivial
theorem h34 : True := trivial
theorem h35 : True := trivial
theorem h36 : True := trivial
theorem h37 : True := trivial
theorem h38 : True := trivial
theorem h39 : True := trivial
theorem h40 : True := trivial
theorem h41 : True := trivial
theorem h42 : True := trivial
theorem h43 : True := trivial
theorem h44 : True := trivial
theorem h45 : True := trivial
theorem h46 : True := trivial
theorem h47 : True := trivial
theorem h48 : True := trivial
theorem h49 : True := trivial
theorem h50 : True := trivial
theorem h51 : True := trivial
theorem h52 : True := trivial
theorem h53 : True := trivial
theorem h54 : True := trivial
theorem h55 : True := trivial
theorem h56 : True := trivial
theorem h57 : True := trivial
theorem h58 : True := trivial
theorem h59 : True := trivial
theorem h60 : True := trivial
theorem h61 : True := trivial
theorem h62 : True := trivial
theorem h63 : True := trivial
theorem h64 : True := trivial
theorem h65 : True := trivial
theorem h66 : True := trivial
theorem h67 : True := trivial
theorem h68 : True := trivial
theorem h69 : True := trivial
theorem h70 : True := trivial
theorem h71 : True := trivial
theorem h72 : True := trivial
theorem h73 : True := trivial
theorem h74 : True := trivial
theorem h75 : True := trivial
theorem h76 : True := trivial
theorem h77 : True := trivial
theorem h78 : True := trivial
theorem h79 : True := trivial
theorem h80 : True := trivial
theorem h81 : True := trivial
theorem h82 : True := trivial
theorem h83 : True := trivial
theorem h84 : True := trivial
theorem h85 : True := trivial
theorem h86 : True := trivial
theorem h87 : True := trivial
theorem h88 : True := trivial
theorem h89 : True := trivial
theorem h90 : True := trivial
theorem h91 : True := trivial
theorem h92 : True := trivial
theorem h93 : True := trivial
theorem h94 : True := trivial
theorem h95 : True := trivial
theorem h96 : True := trivial
theorem h97 : True := trivial
theorem h98 : True := trivial
theorem h99 : True := trivial
theorem h100 : True := trivial
theorem h101 : True := trivial
theorem h102 : True := trivial
theorem h103 : True := trivial
theorem h104 : True := trivial
theorem h105 : True := trivial
theorem h106 : True := trivial
theorem h107 : True := trivial
theorem h108 : True := trivial
theorem h109 : True := trivial
theorem h110 : True := trivial
theorem h111 : True := trivial
theorem h112 : True := trivial
theorem h113 : True := trivial
theorem h114 : True := trivial
theorem h115 : True := trivial
theorem h116 : True := trivial
theorem h117 : True := trivial
theorem h118 : True := trivial
theorem h119 : True := trivial
theorem h120 : True := trivial
theorem h121 : True := trivial
theorem h122 : True := trivial
theorem h123 : True := trivial
theorem h124 : True := trivial
theorem h125 : True := trivial
theorem h126 : True := trivial
theorem h127 : True := trivial
theorem h128 : True := trivial
theorem h129 : True := trivial
theorem h130 : True := trivial
theorem h131 : True := trivial
theorem h132 : True := trivial
theorem h133 : True := trivial
theorem h134 : True := trivial
theorem h135 : True := trivial
theorem h136 : True := trivial
theorem h137 : True := trivial
theorem h138 : True := trivial
theorem h139 : True := trivial
theorem h140 : True := trivial
theorem h141 : True := trivial
theorem h142 : True := trivial
theorem h143 : True := trivial
theorem h144 : True := trivial
theorem h145 : True := trivial
theorem h146 : True := trivial
theorem h147 : True := trivial
theorem h148 : True := trivial
theorem h149 : True := trivial
theorem h150 : True := trivial
theorem h151 : True := trivial
theorem h152 : True := trivial
theorem h153 : True := trivial
theorem h154 : True := trivial
theorem h155 : True := trivial
theorem h156 : True := trivial
theorem h157 : True := trivial
theorem h158 : True := trivial
theorem h159 : True := trivial
theorem h160 : True := trivial
theorem h161 : True := trivial
theorem h162 : True := trivial
theorem h163 : True := trivial
theorem h164 : True := trivial
theorem h165 : True := trivial
theorem h166 : True := trivial
theorem h167 : True := trivial
theorem h168 : True := trivial
theorem h169 : True := trivial
theorem h170 : True := trivial
theorem h171 : True := trivial
theorem h172 : True := trivial
theorem h173 : True := trivial
theorem h174 : True := trivial
theorem h175 : True := trivial
theorem h176 : True := trivial
theorem h177 : True := trivial
theorem h178 : True := trivial
theorem h179 : True := trivial
theorem h180 : True := trivial
theorem h181 : True := trivial
theorem h182 : True := trivial
theorem h183 : True := trivial
theorem h184 : True := trivial
theorem h185 : True := trivial
theorem h186 : True := trivial
theorem h187 : True := trivial
theorem h188 : True := trivial
theorem h189 : True := trivial
theorem h190 : True := trivial
theorem h191 : True := trivial
theorem h192 : True := trivial
theorem h193 : True := trivial
theorem h194 : True := trivial
theorem h195 : True := trivial
theorem h196 : True := trivial
theorem h197 : True := trivial
theorem h198 : True := trivial
theorem h199 : True := trivial
theorem L0 : True := trivial
theorem L1 : True := trivial
theorem L2 : True := trivial
theorem L3 : True := trivial
theorem L4 : True := trivial
theorem L5 : True := trivial
theorem L6 : True := trivial
theorem L7 : True := trivial
theorem L8 : True := trivial
theorem L9 : True := trivial
theorem L10 : True := trivial
theorem L11 : True := trivial
theorem L12 : True := trivial
theorem L13 : True := trivial
theorem L14 : True := trivial
theorem L15 : True := trivial
theorem L16 : True := trivial
theorem L17 : True := trivial
theorem L18 : True := trivial
theorem L19 : True := trivial
theorem L20 : True := trivial
theorem L21 : True := trivial
theorem L22 : True := trivial
theorem L23 : True := trivial
theorem L24 : True := trivial
theorem L25 : True := trivial
theorem L26 : True := trivial
theorem L27 : True := trivial
theorem L28 : True := trivial
theorem L29 : True := trivial
theorem L30 : True := trivial
theorem L31 : True := trivial
theorem L32 : True := trivial
theorem L33 : True := trivial
theorem L34 : True := trivial
theorem L35 : True := trivial
theorem L36 : True := trivial
theorem L37 : True := trivial
theorem L38 : True := trivial
theorem L39 : True := trivial
theorem L40 : True := trivial
theorem L41 : True := trivial
theorem L42 : True := trivial
theorem L43 : True := trivial
theorem L44 : True := trivial
theorem L45 : True := trivial
theorem L46 : True := trivial
theorem L47 : True := trivial
theorem L48 : True := trivial
theorem L49 : True := trivial
theorem L50 : True := trivial
theorem L51 : True := trivial
theorem L52 : True := trivial
theorem L53 : True := trivial
theorem L54 : True := trivial
theorem L55 : True := trivial
theorem L56 : True := trivial
theorem L57 : True := trivial
theorem L58 : True := trivial
theorem L59 : True := trivial
theorem L60 : True := trivial
theorem L61 : True := trivial
theorem L62 : True := trivial
theorem L63 : True := trivial
theorem L64 : True := trivial
theorem L65 : True := trivial
theorem L66 : True := trivial
theorem L67 : True := trivial
theorem L68 : True := trivial
theorem L69 : True := trivial
theorem L70 : True := trivial
theorem L71 : True := trivial
theorem L72 : True := trivial
theorem L73 : True := trivial
theorem L74 : True := trivial
theorem L75 : True := trivial
theorem L76 : True := trivial
theorem L77 : True := trivial
theorem L78 : True := trivial
theorem L79 : True := trivial
theorem L80 : True := trivial
theorem L81 : True := trivial
theorem L82 : True := trivial
theorem L83 : True := trivial
theorem L84 : True := trivial
theorem L85 : True := trivial
theorem L86 : True := trivial
theorem L87 : True := trivial
theorem L88 : True := trivial
theorem L89 : True := trivial
theorem L90 : True := trivial
theorem L91 : True := trivial
theorem L92 : True := trivial
theorem L93 : True := trivial
theorem L94 : True := trivial
theorem L95 : True := trivial
theorem L96 : True := trivial
theorem L97 : True := trivial
theorem L98 : True := trivial
theorem L99 : True := trivial
theorem L100 : True := trivial
theorem L101 : True := trivial
theorem L102 : True := trivial
theorem L103 : True := trivial
theorem L104 : True := trivial
theorem L105 : True := trivial
theorem L106 : True := trivial
theorem L107 : True := trivial
theorem L108 : True := trivial
theorem L109 : True := trivial
theorem L110 : True := trivial
theorem L111 : True := trivial
theorem L112 : True := trivial
theorem L113 : True := trivial
theorem L114 : True := trivial
theorem L115 : True := trivial
theorem L116 : True := trivial
theorem L117 : True := trivial
theorem L118 : True := trivial
theorem L119 : True := trivial
theorem L120 : True := trivial
theorem L121 : True := trivial
theorem L122 : True := trivial
theorem L123 : True := trivial
theorem L124 : True := trivial
theorem L125 : True := trivial
theorem L126 : True := trivial
theorem L127 : True := trivial
theorem L128 : True := trivial
theorem L129 : True := trivial
theorem L130 : True := trivial
theorem L131 : True := trivial
theorem L132 : True := trivial
theorem L133 : True := trivial
theorem L134 : True := trivial
theorem L135 : True := trivial
theorem L136 : True := trivial
theorem L137 : True := trivial
theorem L138 : True := trivial
theorem L139 : True := trivial
theorem L140 : True := trivial
theorem L141 : True := trivial
theorem L142 : True := trivial
theorem L143 : True := trivial
theorem L144 : True := trivial
theorem L145 : True := trivial
theorem L146 : True := trivial
theorem L147 : True := trivial
theorem L148 : True := trivial
theorem L149 : True := trivial
theorem L150 : True := trivial
theorem L151 : True := trivial
theorem L152 : True := trivial
theorem L153 : True := trivial
theorem L154 : True := trivial
theorem L155 : True := trivial
theorem L156 : True := trivial
theorem L157 : True := trivial
theorem L158 : True := trivial
theorem L159 : True := trivial
theorem L160 : True := trivial
theorem L161 : True := trivial
theorem L162 : True := trivial
theorem L163 : True := trivial
theorem L164 : True := trivial
theorem L165 : True := trivial
theorem L166 : True := trivial
theorem L167 : True := trivial
theorem L168 : True := trivial
theorem L169 : True := trivial
theorem L170 : True := trivial
theorem L171 : True := trivial
theorem L172 : True := trivial
theorem L173 : True := trivial
theorem L174 : True := trivial
theorem L175 : True := trivial
theorem L176 : True := trivial
theorem L177 : True := trivial
theorem L178 : True := trivial
theorem L179 : True := trivial
theorem L180 : True := trivial
theorem L181 : True := trivial
theorem L182 : True := trivial
theorem L183 : True := trivial
theorem L184 : True := trivial
theorem L185 : True := trivial
theorem L186 : True := trivial
theorem L187 : True := trivial
theorem L188 : True := trivial
theorem L189 : True := trivial
theorem L190 : True := trivial
theorem L191 : True := trivial
theorem L192 : True := trivial
theorem L193 : True := trivial
theorem L194 : True := trivial
theorem L195 : True := trivial
theorem L196 : True := trivial
theorem L197 : True := trivial
theorem L198 : True := trivial
theorem L199 : True := trivial
-- STAND-INS
def ws_cl : List Cond := [Cond.classLink RL 13 "java/lang/IllegalArgumentException", Cond.classLink RL 15 "java/lang/IllegalStateException", Cond.classLink RL 21 "java/lang/IndexOutOfBoundsException", Cond.classLink RL 124 "java/util/NoSuchElementException", Cond.classLink RL 143 "java/lang/ArithmeticException", Cond.classLink RL 8 "LampCooperative", Cond.classLink RL 165 "LampCooperativeModel"]
theorem ws_cl_in : ∀ w ∈ ws_cl, w ∈ lw_tbl2 := by decide +kernel
theorem ws_cl_good : ws_cl.all goodWord = true := by decide +kernel
theorem gl_up {big ws ext : List Cond} (h : GoodIn big ws) : GoodIn (big ++ ext) ws := fun w hw => ⟨List.mem_append_left _ (h w hw).1, (h w hw).2⟩
theorem gl_law {big ws : List Cond} {own : String} {idx : Nat} {y : MethodName} (h : GoodIn big (va_wsS own idx y ws)) : GoodIn (big ++ ws_cl) (va_wsS own idx y (ws ++ ws_cl)) := by
  intro w hw
  rcases List.mem_append.mp hw with hw | hw
  · exact ⟨List.mem_append_left _ (h w (List.mem_append_left _ hw)).1, (h w (List.mem_append_left _ hw)).2⟩
  · rcases List.mem_append.mp hw with hw | hw
    · exact ⟨List.mem_append_left _ (h w (List.mem_append_right _ hw)).1, (h w (List.mem_append_right _ hw)).2⟩
    · exact ⟨List.mem_append_right _ hw, good_of_word (List.all_eq_true.mp ws_cl_good w hw)⟩
theorem w_addLamp (l : Launch) (G : xG) (d d1 : xd) (a b : Int32) (k : Nat) (r : Int32) (h : y_C l yX11_addLamp wsX11_addLamp (fun G => [.ref (x_b G + 0), .int a, .int b]) ["java/lang/IllegalArgumentException", "java/lang/IllegalStateException"] k (.int r) d d1) : x_ML G (if k = 0 then x_sl G r.toInt64 else G) l yL_addLamp (wsL_addLamp ++ ws_cl) 11 [.ref (x_b G + 0), .int a, .int b, .ref (x_b G + 183)] d (some (.int (nI k))) d1 := by
  obtain ⟨lv, hlv, ⟨rfl, h⟩ | ⟨E, h1, hE, h⟩⟩ := h
  · rw [if_pos rfl]
    refine x_startH (hh := [(0, 10, 13, 13), (0, 10, 17, 15)]) (by decide) rfl rfl (Nat.le_of_ble_eq_true rfl) rfl ?_
    intro p e s m args below meth c C hret hlocks hT
    refine a_aload_n C dL_addLamp_0 3 rfl ?_
    refine a_iconst C dL_addLamp_1 rfl ?_
    refine a_aload_n C dL_addLamp_2 0 rfl ?_
    refine a_iload_n C dL_addLamp_3 1 rfl ?_
    refine a_iload_n C dL_addLamp_4 2 rfl ?_
    refine a_callV C (k := 0) (As := [.int a, .int b]) (rest := [.int 0, .ref (x_b G + 183)]) (h G) (cwV 2 C.1.2.2.2.2 (gl_up gL_addLamp_X11_addLamp) rfl rfl rfl (by decide +kernel) ⟨by dsimp only [x_rm]; omega, by dsimp only [x_rm]; omega⟩) x_k0 (q := (RX11, TX11, 13)) rfl rfl rfl rfl (Nat.le_of_ble_eq_true rfl) dL_addLamp_5 ⟨Nat.le_of_ble_eq_true rfl, Nat.le_of_ble_eq_true rfl⟩ ?_
    refine a_i2l C dL_addLamp_8 ?_
    refine a_last C dL_addLamp_9 ?_
    refine a_goto (C.sl _) dL_addLamp_10 (tgt := 21) rfl ?_
    refine a_iconst (C.sl _) dL_addLamp_21 rfl ?_
    refine a_widen (Nat.zero_le 1) (Nat.zero_le 6) ?_
    exact a_iretL (C.sl _) rfl hlocks hret dL_addLamp_22 (by decide) rfl
  · obtain ⟨k, rfl⟩ : ∃ j, k = j + 1 := ⟨k - 1, by omega⟩
    rw [if_neg (by omega)]
    rcases k with _ | _ | k
    · injection (show some "java/lang/IllegalArgumentException" = some E from hE) with hE
      subst hE
      refine x_startH (hh := [(0, 10, 13, 13), (0, 10, 17, 15)]) (by decide) rfl rfl (Nat.le_of_ble_eq_true rfl) rfl ?_
      intro p e s m args below meth c C hret hlocks hT
      refine a_aload_n C dL_addLamp_0 3 rfl ?_
      refine a_iconst C dL_addLamp_1 rfl ?_
      refine a_aload_n C dL_addLamp_2 0 rfl ?_
      refine a_iload_n C dL_addLamp_3 1 rfl ?_
      refine a_iload_n C dL_addLamp_4 2 rfl ?_
      refine a_callC C (k := 0) (As := [.int a, .int b]) (rest := [.int 0, .ref (x_b G + 183)]) (h G) (cwV 2 C.1.2.2.2.2 (gl_up gL_addLamp_X11_addLamp) rfl rfl rfl (by decide +kernel) ⟨by dsimp only [x_rm]; omega, by dsimp only [x_rm]; omega⟩) x_k0 (q := (RX11, TX11, 13)) rfl rfl rfl rfl (Nat.le_of_ble_eq_true rfl) dL_addLamp_5 ⟨Nat.le_of_ble_eq_true rfl, Nat.le_of_ble_eq_true rfl⟩ [] ⟨0, 10, 13, 13⟩ [⟨0, 10, 17, 15⟩] (hT.trans rfl) (fun z hz => absurd hz List.not_mem_nil) (by decide) (by decide) (List.mem_append_right _ (by decide +kernel)) (by decide +kernel) (fun w => ?_)
      refine a_astore C dL_addLamp_13 (Nat.le_of_ble_eq_true rfl) rfl ?_
      refine a_iconst C dL_addLamp_15 rfl ?_
      exact a_iretL C rfl hlocks hret dL_addLamp_16 (by decide) rfl
    · injection (show some "java/lang/IllegalStateException" = some E from hE) with hE
      subst hE
      refine x_startH (hh := [(0, 10, 13, 13), (0, 10, 17, 15)]) (by decide) rfl rfl (Nat.le_of_ble_eq_true rfl) rfl ?_
      intro p e s m args below meth c C hret hlocks hT
      refine a_aload_n C dL_addLamp_0 3 rfl ?_
      refine a_iconst C dL_addLamp_1 rfl ?_
      refine a_aload_n C dL_addLamp_2 0 rfl ?_
      refine a_iload_n C dL_addLamp_3 1 rfl ?_
      refine a_iload_n C dL_addLamp_4 2 rfl ?_
      refine a_callC C (k := 0) (As := [.int a, .int b]) (rest := [.int 0, .ref (x_b G + 183)]) (h G) (cwV 2 C.1.2.2.2.2 (gl_up gL_addLamp_X11_addLamp) rfl rfl rfl (by decide +kernel) ⟨by dsimp only [x_rm]; omega, by dsimp only [x_rm]; omega⟩) x_k0 (q := (RX11, TX11, 13)) rfl rfl rfl rfl (Nat.le_of_ble_eq_true rfl) dL_addLamp_5 ⟨Nat.le_of_ble_eq_true rfl, Nat.le_of_ble_eq_true rfl⟩ [⟨0, 10, 13, 13⟩] ⟨0, 10, 17, 15⟩ [] (hT.trans rfl) (fun z hz => by
        cases List.mem_singleton.mp hz
        exact ⟨by decide, "java/lang/IllegalArgumentException", List.mem_append_right _ (by decide +kernel), by decide +kernel⟩) (by decide) (by decide) (List.mem_append_right _ (by decide +kernel)) (by decide +kernel) (fun w => ?_)
      refine a_astore C dL_addLamp_17 (Nat.le_of_ble_eq_true rfl) rfl ?_
      refine a_iconst C dL_addLamp_19 rfl ?_
      exact a_iretL C rfl hlocks hret dL_addLamp_20 (by decide) rfl
    · exact absurd (show none = some E from hE) (fun z => by cases z)
theorem w_removeLamp (l : Launch) (G : xG) (d d1 : xd) (a : Int32) (k : Nat) (r : Int32) (h : y_C l yX11_removeLamp wsX11_removeLamp (fun G => [.ref (x_b G + 0), .int a]) ["java/lang/IndexOutOfBoundsException", "java/lang/IllegalStateException"] k (.int r) d d1) : x_ML G (if k = 0 then x_sl G r.toInt64 else G) l yL_removeLamp (wsL_removeLamp ++ ws_cl) 11 [.ref (x_b G + 0), .int a, .ref (x_b G + 183)] d (some (.int (nI k))) d1 := by
  obtain ⟨lv, hlv, ⟨rfl, h⟩ | ⟨E, h1, hE, h⟩⟩ := h
  · rw [if_pos rfl]
    refine x_startH (hh := [(0, 9, 12, 21), (0, 9, 15, 15)]) (by decide) rfl rfl (Nat.le_of_ble_eq_true rfl) rfl ?_
    intro p e s m args below meth c C hret hlocks hT
    refine a_aload_n C dL_removeLamp_0 2 rfl ?_
    refine a_iconst C dL_removeLamp_1 rfl ?_
    refine a_aload_n C dL_removeLamp_2 0 rfl ?_
    refine a_iload_n C dL_removeLamp_3 1 rfl ?_
    refine a_callV C (k := 0) (As := [.int a]) (rest := [.int 0, .ref (x_b G + 183)]) (h G) (cwV 1 C.1.2.2.2.2 (gl_up gL_removeLamp_X11_removeLamp) rfl rfl rfl (by decide +kernel) ⟨by dsimp only [x_rm]; omega, by dsimp only [x_rm]; omega⟩) x_k0 (q := (RX11, TX11, 13)) rfl rfl rfl rfl (Nat.le_of_ble_eq_true rfl) dL_removeLamp_4 ⟨Nat.le_of_ble_eq_true rfl, Nat.le_of_ble_eq_true rfl⟩ ?_
    refine a_i2l C dL_removeLamp_7 ?_
    refine a_last C dL_removeLamp_8 ?_
    refine a_goto (C.sl _) dL_removeLamp_9 (tgt := 18) rfl ?_
    refine a_iconst (C.sl _) dL_removeLamp_18 rfl ?_
    refine a_widen (Nat.zero_le 1) (Nat.zero_le 6) ?_
    exact a_iretL (C.sl _) rfl hlocks hret dL_removeLamp_19 (by decide) rfl
  · obtain ⟨k, rfl⟩ : ∃ j, k = j + 1 := ⟨k - 1, by omega⟩
    rw [if_neg (by omega)]
    rcases k with _ | _ | k
    · injection (show some "java/lang/IndexOutOfBoundsException" = some E from hE) with hE
      subst hE
      refine x_startH (hh := [(0, 9, 12, 21), (0, 9, 15, 15)]) (by decide) rfl rfl (Nat.le_of_ble_eq_true rfl) rfl ?_
      intro p e s m args below meth c C hret hlocks hT
      refine a_aload_n C dL_removeLamp_0 2 rfl ?_
      refine a_iconst C dL_removeLamp_1 rfl ?_
      refine a_aload_n C dL_removeLamp_2 0 rfl ?_
      refine a_iload_n C dL_removeLamp_3 1 rfl ?_
      refine a_callC C (k := 0) (As := [.int a]) (rest := [.int 0, .ref (x_b G + 183)]) (h G) (cwV 1 C.1.2.2.2.2 (gl_up gL_removeLamp_X11_removeLamp) rfl rfl rfl (by decide +kernel) ⟨by dsimp only [x_rm]; omega, by dsimp only [x_rm]; omega⟩) x_k0 (q := (RX11, TX11, 13)) rfl rfl rfl rfl (Nat.le_of_ble_eq_true rfl) dL_removeLamp_4 ⟨Nat.le_of_ble_eq_true rfl, Nat.le_of_ble_eq_true rfl⟩ [] ⟨0, 9, 12, 21⟩ [⟨0, 9, 15, 15⟩] (hT.trans rfl) (fun z hz => absurd hz List.not_mem_nil) (by decide) (by decide) (List.mem_append_right _ (by decide +kernel)) (by decide +kernel) (fun w => ?_)
      refine a_astore_n C dL_removeLamp_12 (Nat.le_of_ble_eq_true rfl) rfl ?_
      refine a_iconst C dL_removeLamp_13 rfl ?_
      exact a_iretL C rfl hlocks hret dL_removeLamp_14 (by decide) rfl
    · injection (show some "java/lang/IllegalStateException" = some E from hE) with hE
      subst hE
      refine x_startH (hh := [(0, 9, 12, 21), (0, 9, 15, 15)]) (by decide) rfl rfl (Nat.le_of_ble_eq_true rfl) rfl ?_
      intro p e s m args below meth c C hret hlocks hT
      refine a_aload_n C dL_removeLamp_0 2 rfl ?_
      refine a_iconst C dL_removeLamp_1 rfl ?_
      refine a_aload_n C dL_removeLamp_2 0 rfl ?_
      refine a_iload_n C dL_removeLamp_3 1 rfl ?_
      refine a_callC C (k := 0) (As := [.int a]) (rest := [.int 0, .ref (x_b G + 183)]) (h G) (cwV 1 C.1.2.2.2.2 (gl_up gL_removeLamp_X11_removeLamp) rfl rfl rfl (by decide +kernel) ⟨by dsimp only [x_rm]; omega, by dsimp only [x_rm]; omega⟩) x_k0 (q := (RX11, TX11, 13)) rfl rfl rfl rfl (Nat.le_of_ble_eq_true rfl) dL_removeLamp_4 ⟨Nat.le_of_ble_eq_true rfl, Nat.le_of_ble_eq_true rfl⟩ [⟨0, 9, 12, 21⟩] ⟨0, 9, 15, 15⟩ [] (hT.trans rfl) (fun z hz => by
        cases List.mem_singleton.mp hz
        exact ⟨by decide, "java/lang/IndexOutOfBoundsException", List.mem_append_right _ (by decide +kernel), by decide +kernel⟩) (by decide) (by decide) (List.mem_append_right _ (by decide +kernel)) (by decide +kernel) (fun w => ?_)
      refine a_astore_n C dL_removeLamp_15 (Nat.le_of_ble_eq_true rfl) rfl ?_
      refine a_iconst C dL_removeLamp_16 rfl ?_
      exact a_iretL C rfl hlocks hret dL_removeLamp_17 (by decide) rfl
    · exact absurd (show none = some E from hE) (fun z => by cases z)
theorem w_setShares (l : Launch) (G : xG) (d d1 : xd) (a b : Int32) (k : Nat) (r : Int32) (h : y_C l yX11_setShares wsX11_setShares (fun G => [.ref (x_b G + 0), .int a, .int b]) ["java/lang/IndexOutOfBoundsException", "java/lang/IllegalArgumentException"] k (.int r) d d1) : x_ML G (if k = 0 then x_sl G r.toInt64 else G) l yL_setShares (wsL_setShares ++ ws_cl) 11 [.ref (x_b G + 0), .int a, .int b, .ref (x_b G + 183)] d (some (.int (nI k))) d1 := by
  obtain ⟨lv, hlv, ⟨rfl, h⟩ | ⟨E, h1, hE, h⟩⟩ := h
  · rw [if_pos rfl]
    refine x_startH (hh := [(0, 10, 13, 21), (0, 10, 17, 13)]) (by decide) rfl rfl (Nat.le_of_ble_eq_true rfl) rfl ?_
    intro p e s m args below meth c C hret hlocks hT
    refine a_aload_n C dL_setShares_0 3 rfl ?_
    refine a_iconst C dL_setShares_1 rfl ?_
    refine a_aload_n C dL_setShares_2 0 rfl ?_
    refine a_iload_n C dL_setShares_3 1 rfl ?_
    refine a_iload_n C dL_setShares_4 2 rfl ?_
    refine a_callV C (k := 0) (As := [.int a, .int b]) (rest := [.int 0, .ref (x_b G + 183)]) (h G) (cwV 2 C.1.2.2.2.2 (gl_up gL_setShares_X11_setShares) rfl rfl rfl (by decide +kernel) ⟨by dsimp only [x_rm]; omega, by dsimp only [x_rm]; omega⟩) x_k0 (q := (RX11, TX11, 13)) rfl rfl rfl rfl (Nat.le_of_ble_eq_true rfl) dL_setShares_5 ⟨Nat.le_of_ble_eq_true rfl, Nat.le_of_ble_eq_true rfl⟩ ?_
    refine a_i2l C dL_setShares_8 ?_
    refine a_last C dL_setShares_9 ?_
    refine a_goto (C.sl _) dL_setShares_10 (tgt := 21) rfl ?_
    refine a_iconst (C.sl _) dL_setShares_21 rfl ?_
    refine a_widen (Nat.zero_le 1) (Nat.zero_le 6) ?_
    exact a_iretL (C.sl _) rfl hlocks hret dL_setShares_22 (by decide) rfl
  · obtain ⟨k, rfl⟩ : ∃ j, k = j + 1 := ⟨k - 1, by omega⟩
    rw [if_neg (by omega)]
    rcases k with _ | _ | k
    · injection (show some "java/lang/IndexOutOfBoundsException" = some E from hE) with hE
      subst hE
      refine x_startH (hh := [(0, 10, 13, 21), (0, 10, 17, 13)]) (by decide) rfl rfl (Nat.le_of_ble_eq_true rfl) rfl ?_
      intro p e s m args below meth c C hret hlocks hT
      refine a_aload_n C dL_setShares_0 3 rfl ?_
      refine a_iconst C dL_setShares_1 rfl ?_
      refine a_aload_n C dL_setShares_2 0 rfl ?_
      refine a_iload_n C dL_setShares_3 1 rfl ?_
      refine a_iload_n C dL_setShares_4 2 rfl ?_
      refine a_callC C (k := 0) (As := [.int a, .int b]) (rest := [.int 0, .ref (x_b G + 183)]) (h G) (cwV 2 C.1.2.2.2.2 (gl_up gL_setShares_X11_setShares) rfl rfl rfl (by decide +kernel) ⟨by dsimp only [x_rm]; omega, by dsimp only [x_rm]; omega⟩) x_k0 (q := (RX11, TX11, 13)) rfl rfl rfl rfl (Nat.le_of_ble_eq_true rfl) dL_setShares_5 ⟨Nat.le_of_ble_eq_true rfl, Nat.le_of_ble_eq_true rfl⟩ [] ⟨0, 10, 13, 21⟩ [⟨0, 10, 17, 13⟩] (hT.trans rfl) (fun z hz => absurd hz List.not_mem_nil) (by decide) (by decide) (List.mem_append_right _ (by decide +kernel)) (by decide +kernel) (fun w => ?_)
      refine a_astore C dL_setShares_13 (Nat.le_of_ble_eq_true rfl) rfl ?_
      refine a_iconst C dL_setShares_15 rfl ?_
      exact a_iretL C rfl hlocks hret dL_setShares_16 (by decide) rfl
    · injection (show some "java/lang/IllegalArgumentException" = some E from hE) with hE
      subst hE
      refine x_startH (hh := [(0, 10, 13, 21), (0, 10, 17, 13)]) (by decide) rfl rfl (Nat.le_of_ble_eq_true rfl) rfl ?_
      intro p e s m args below meth c C hret hlocks hT
      refine a_aload_n C dL_setShares_0 3 rfl ?_
      refine a_iconst C dL_setShares_1 rfl ?_
      refine a_aload_n C dL_setShares_2 0 rfl ?_
      refine a_iload_n C dL_setShares_3 1 rfl ?_
      refine a_iload_n C dL_setShares_4 2 rfl ?_
      refine a_callC C (k := 0) (As := [.int a, .int b]) (rest := [.int 0, .ref (x_b G + 183)]) (h G) (cwV 2 C.1.2.2.2.2 (gl_up gL_setShares_X11_setShares) rfl rfl rfl (by decide +kernel) ⟨by dsimp only [x_rm]; omega, by dsimp only [x_rm]; omega⟩) x_k0 (q := (RX11, TX11, 13)) rfl rfl rfl rfl (Nat.le_of_ble_eq_true rfl) dL_setShares_5 ⟨Nat.le_of_ble_eq_true rfl, Nat.le_of_ble_eq_true rfl⟩ [⟨0, 10, 13, 21⟩] ⟨0, 10, 17, 13⟩ [] (hT.trans rfl) (fun z hz => by
        cases List.mem_singleton.mp hz
        exact ⟨by decide, "java/lang/IndexOutOfBoundsException", List.mem_append_right _ (by decide +kernel), by decide +kernel⟩) (by decide) (by decide) (List.mem_append_right _ (by decide +kernel)) (by decide +kernel) (fun w => ?_)
      refine a_astore C dL_setShares_17 (Nat.le_of_ble_eq_true rfl) rfl ?_
      refine a_iconst C dL_setShares_19 rfl ?_
      exact a_iretL C rfl hlocks hret dL_setShares_20 (by decide) rfl
    · exact absurd (show none = some E from hE) (fun z => by cases z)
theorem w_setBrightness (l : Launch) (G : xG) (d d1 : xd) (a b : Int32) (k : Nat) (r : Int32) (h : y_C l yX11_setBrightness wsX11_setBrightness (fun G => [.ref (x_b G + 0), .int a, .int b]) ["java/lang/IndexOutOfBoundsException", "java/lang/IllegalArgumentException"] k (.int r) d d1) : x_ML G (if k = 0 then x_sl G r.toInt64 else G) l yL_setBrightness (wsL_setBrightness ++ ws_cl) 11 [.ref (x_b G + 0), .int a, .int b, .ref (x_b G + 183)] d (some (.int (nI k))) d1 := by
  obtain ⟨lv, hlv, ⟨rfl, h⟩ | ⟨E, h1, hE, h⟩⟩ := h
  · rw [if_pos rfl]
    refine x_startH (hh := [(0, 10, 13, 21), (0, 10, 17, 13)]) (by decide) rfl rfl (Nat.le_of_ble_eq_true rfl) rfl ?_
    intro p e s m args below meth c C hret hlocks hT
    refine a_aload_n C dL_setBrightness_0 3 rfl ?_
    refine a_iconst C dL_setBrightness_1 rfl ?_
    refine a_aload_n C dL_setBrightness_2 0 rfl ?_
    refine a_iload_n C dL_setBrightness_3 1 rfl ?_
    refine a_iload_n C dL_setBrightness_4 2 rfl ?_
    refine a_callV C (k := 0) (As := [.int a, .int b]) (rest := [.int 0, .ref (x_b G + 183)]) (h G) (cwV 2 C.1.2.2.2.2 (gl_up gL_setBrightness_X11_setBrightness) rfl rfl rfl (by decide +kernel) ⟨by dsimp only [x_rm]; omega, by dsimp only [x_rm]; omega⟩) x_k0 (q := (RX11, TX11, 13)) rfl rfl rfl rfl (Nat.le_of_ble_eq_true rfl) dL_setBrightness_5 ⟨Nat.le_of_ble_eq_true rfl, Nat.le_of_ble_eq_true rfl⟩ ?_
    refine a_i2l C dL_setBrightness_8 ?_
    refine a_last C dL_setBrightness_9 ?_
    refine a_goto (C.sl _) dL_setBrightness_10 (tgt := 21) rfl ?_
    refine a_iconst (C.sl _) dL_setBrightness_21 rfl ?_
    refine a_widen (Nat.zero_le 1) (Nat.zero_le 6) ?_
    exact a_iretL (C.sl _) rfl hlocks hret dL_setBrightness_22 (by decide) rfl
  · obtain ⟨k, rfl⟩ : ∃ j, k = j + 1 := ⟨k - 1, by omega⟩
    rw [if_neg (by omega)]
    rcases k with _ | _ | k
    · injection (show some "java/lang/IndexOutOfBoundsException" = some E from hE) with hE
      subst hE
      refine x_startH (hh := [(0, 10, 13, 21), (0, 10, 17, 13)]) (by decide) rfl rfl (Nat.le_of_ble_eq_true rfl) rfl ?_
      intro p e s m args below meth c C hret hlocks hT
      refine a_aload_n C dL_setBrightness_0 3 rfl ?_
      refine a_iconst C dL_setBrightness_1 rfl ?_
      refine a_aload_n C dL_setBrightness_2 0 rfl ?_
      refine a_iload_n C dL_setBrightness_3 1 rfl ?_
      refine a_iload_n C dL_setBrightness_4 2 rfl ?_
      refine a_callC C (k := 0) (As := [.int a, .int b]) (rest := [.int 0, .ref (x_b G + 183)]) (h G) (cwV 2 C.1.2.2.2.2 (gl_up gL_setBrightness_X11_setBrightness) rfl rfl rfl (by decide +kernel) ⟨by dsimp only [x_rm]; omega, by dsimp only [x_rm]; omega⟩) x_k0 (q := (RX11, TX11, 13)) rfl rfl rfl rfl (Nat.le_of_ble_eq_true rfl) dL_setBrightness_5 ⟨Nat.le_of_ble_eq_true rfl, Nat.le_of_ble_eq_true rfl⟩ [] ⟨0, 10, 13, 21⟩ [⟨0, 10, 17, 13⟩] (hT.trans rfl) (fun z hz => absurd hz List.not_mem_nil) (by decide) (by decide) (List.mem_append_right _ (by decide +kernel)) (by decide +kernel) (fun w => ?_)
      refine a_astore C dL_setBrightness_13 (Nat.le_of_ble_eq_true rfl) rfl ?_
      refine a_iconst C dL_setBrightness_15 rfl ?_
      exact a_iretL C rfl hlocks hret dL_setBrightness_16 (by decide) rfl
    · injection (show some "java/lang/IllegalArgumentException" = some E from hE) with hE
      subst hE
      refine x_startH (hh := [(0, 10, 13, 21), (0, 10, 17, 13)]) (by decide) rfl rfl (Nat.le_of_ble_eq_true rfl) rfl ?_
      intro p e s m args below meth c C hret hlocks hT
      refine a_aload_n C dL_setBrightness_0 3 rfl ?_
      refine a_iconst C dL_setBrightness_1 rfl ?_
      refine a_aload_n C dL_setBrightness_2 0 rfl ?_
      refine a_iload_n C dL_setBrightness_3 1 rfl ?_
      refine a_iload_n C dL_setBrightness_4 2 rfl ?_
      refine a_callC C (k := 0) (As := [.int a, .int b]) (rest := [.int 0, .ref (x_b G + 183)]) (h G) (cwV 2 C.1.2.2.2.2 (gl_up gL_setBrightness_X11_setBrightness) rfl rfl rfl (by decide +kernel) ⟨by dsimp only [x_rm]; omega, by dsimp only [x_rm]; omega⟩) x_k0 (q := (RX11, TX11, 13)) rfl rfl rfl rfl (Nat.le_of_ble_eq_true rfl) dL_setBrightness_5 ⟨Nat.le_of_ble_eq_true rfl, Nat.le_of_ble_eq_true rfl⟩ [⟨0, 10, 13, 21⟩] ⟨0, 10, 17, 13⟩ [] (hT.trans rfl) (fun z hz => by
        cases List.mem_singleton.mp hz
        exact ⟨by decide, "java/lang/IndexOutOfBoundsException", List.mem_append_right _ (by decide +kernel), by decide +kernel⟩) (by decide) (by decide) (List.mem_append_right _ (by decide +kernel)) (by decide +kernel) (fun w => ?_)
      refine a_astore C dL_setBrightness_17 (Nat.le_of_ble_eq_true rfl) rfl ?_
      refine a_iconst C dL_setBrightness_19 rfl ?_
      exact a_iretL C rfl hlocks hret dL_setBrightness_20 (by decide) rfl
    · exact absurd (show none = some E from hE) (fun z => by cases z)
theorem w_switchOn (l : Launch) (G : xG) (d d1 : xd) (a : Int32) (k : Nat) (r : Int32) (h : y_C l yX11_switchOn wsX11_switchOn (fun G => [.ref (x_b G + 0), .int a]) ["java/lang/IndexOutOfBoundsException"] k (.int r) d d1) : x_ML G (if k = 0 then x_sl G (x_lz r) else G) l yL_switchOn (wsL_switchOn ++ ws_cl) 11 [.ref (x_b G + 0), .int a, .ref (x_b G + 183)] d (some (.int (nI k))) d1 := by
  obtain ⟨lv, hlv, ⟨rfl, h⟩ | ⟨E, h1, hE, h⟩⟩ := h
  · rw [if_pos rfl]
    refine x_startH (hh := [(0, 16, 19, 21)]) (by decide) rfl rfl (Nat.le_of_ble_eq_true rfl) rfl ?_
    intro p e s m args below meth c C hret hlocks hT
    refine a_aload_n C dL_switchOn_0 2 rfl ?_
    refine a_iconst C dL_switchOn_1 rfl ?_
    refine a_aload_n C dL_switchOn_2 0 rfl ?_
    refine a_iload_n C dL_switchOn_3 1 rfl ?_
    refine a_callV C (k := 0) (As := [.int a]) (rest := [.int 0, .ref (x_b G + 183)]) (h G) (cwV 1 C.1.2.2.2.2 (gl_up gL_switchOn_X11_switchOn) rfl rfl rfl (by decide +kernel) ⟨by dsimp only [x_rm]; omega, by dsimp only [x_rm]; omega⟩) x_k0 (q := (RX11, TX11, 13)) rfl rfl rfl rfl (Nat.le_of_ble_eq_true rfl) dL_switchOn_4 ⟨Nat.le_of_ble_eq_true rfl, Nat.le_of_ble_eq_true rfl⟩ ?_
    refine a_if_eq C dL_switchOn_7 (tgt := 14) rfl (fun hz => ?_) (fun hz => ?_)
    · rw [show x_lz r = 0 from if_pos hz]
      refine a_lconst C dL_switchOn_14 rfl ?_
      refine a_last C dL_switchOn_15 ?_
      refine a_goto (C.sl _) dL_switchOn_16 (tgt := 22) rfl ?_
      refine a_iconst (C.sl _) dL_switchOn_22 rfl ?_
      refine a_widen (Nat.zero_le 1) (Nat.zero_le 6) ?_
      exact a_iretL (C.sl _) rfl hlocks hret dL_switchOn_23 (by decide) rfl
    · rw [show x_lz r = 1 from if_neg hz]
      refine a_lconst C dL_switchOn_10 rfl ?_
      refine a_goto C dL_switchOn_11 (tgt := 15) rfl ?_
      refine a_last C dL_switchOn_15 ?_
      refine a_goto (C.sl _) dL_switchOn_16 (tgt := 22) rfl ?_
      refine a_iconst (C.sl _) dL_switchOn_22 rfl ?_
      refine a_widen (Nat.zero_le 1) (Nat.zero_le 6) ?_
      exact a_iretL (C.sl _) rfl hlocks hret dL_switchOn_23 (by decide) rfl
  · obtain ⟨k, rfl⟩ : ∃ j, k = j + 1 := ⟨k - 1, by omega⟩
    rw [if_neg (by omega)]
    rcases k with _ | k
    · injection (show some "java/lang/IndexOutOfBoundsException" = some E from hE) with hE
      subst hE
      refine x_startH (hh := [(0, 16, 19, 21)]) (by decide) rfl rfl (Nat.le_of_ble_eq_true rfl) rfl ?_
      intro p e s m args below meth c C hret hlocks hT
      refine a_aload_n C dL_switchOn_0 2 rfl ?_
      refine a_iconst C dL_switchOn_1 rfl ?_
      refine a_aload_n C dL_switchOn_2 0 rfl ?_
      refine a_iload_n C dL_switchOn_3 1 rfl ?_
      refine a_callC C (k := 0) (As := [.int a]) (rest := [.int 0, .ref (x_b G + 183)]) (h G) (cwV 1 C.1.2.2.2.2 (gl_up gL_switchOn_X11_switchOn) rfl rfl rfl (by decide +kernel) ⟨by dsimp only [x_rm]; omega, by dsimp only [x_rm]; omega⟩) x_k0 (q := (RX11, TX11, 13)) rfl rfl rfl rfl (Nat.le_of_ble_eq_true rfl) dL_switchOn_4 ⟨Nat.le_of_ble_eq_true rfl, Nat.le_of_ble_eq_true rfl⟩ [] ⟨0, 16, 19, 21⟩ [] (hT.trans rfl) (fun z hz => absurd hz List.not_mem_nil) (by decide) (by decide) (List.mem_append_right _ (by decide +kernel)) (by decide +kernel) (fun w => ?_)
      refine a_astore_n C dL_switchOn_19 (Nat.le_of_ble_eq_true rfl) rfl ?_
      refine a_iconst C dL_switchOn_20 rfl ?_
      exact a_iretL C rfl hlocks hret dL_switchOn_21 (by decide) rfl
    · exact absurd (show none = some E from hE) (fun z => by cases z)
theorem w_switchOff (l : Launch) (G : xG) (d d1 : xd) (a : Int32) (k : Nat) (r : Int32) (h : y_C l yX11_switchOff wsX11_switchOff (fun G => [.ref (x_b G + 0), .int a]) ["java/lang/IndexOutOfBoundsException"] k (.int r) d d1) : x_ML G (if k = 0 then x_sl G (x_lz r) else G) l yL_switchOff (wsL_switchOff ++ ws_cl) 11 [.ref (x_b G + 0), .int a, .ref (x_b G + 183)] d (some (.int (nI k))) d1 := by
  obtain ⟨lv, hlv, ⟨rfl, h⟩ | ⟨E, h1, hE, h⟩⟩ := h
  · rw [if_pos rfl]
    refine x_startH (hh := [(0, 16, 19, 21)]) (by decide) rfl rfl (Nat.le_of_ble_eq_true rfl) rfl ?_
    intro p e s m args below meth c C hret hlocks hT
    refine a_aload_n C dL_switchOff_0 2 rfl ?_
    refine a_iconst C dL_switchOff_1 rfl ?_
    refine a_aload_n C dL_switchOff_2 0 rfl ?_
    refine a_iload_n C dL_switchOff_3 1 rfl ?_
    refine a_callV C (k := 0) (As := [.int a]) (rest := [.int 0, .ref (x_b G + 183)]) (h G) (cwV 1 C.1.2.2.2.2 (gl_up gL_switchOff_X11_switchOff) rfl rfl rfl (by decide +kernel) ⟨by dsimp only [x_rm]; omega, by dsimp only [x_rm]; omega⟩) x_k0 (q := (RX11, TX11, 13)) rfl rfl rfl rfl (Nat.le_of_ble_eq_true rfl) dL_switchOff_4 ⟨Nat.le_of_ble_eq_true rfl, Nat.le_of_ble_eq_true rfl⟩ ?_
    refine a_if_eq C dL_switchOff_7 (tgt := 14) rfl (fun hz => ?_) (fun hz => ?_)
    · rw [show x_lz r = 0 from if_pos hz]
      refine a_lconst C dL_switchOff_14 rfl ?_
      refine a_last C dL_switchOff_15 ?_
      refine a_goto (C.sl _) dL_switchOff_16 (tgt := 22) rfl ?_
      refine a_iconst (C.sl _) dL_switchOff_22 rfl ?_
      refine a_widen (Nat.zero_le 1) (Nat.zero_le 6) ?_
      exact a_iretL (C.sl _) rfl hlocks hret dL_switchOff_23 (by decide) rfl
    · rw [show x_lz r = 1 from if_neg hz]
      refine a_lconst C dL_switchOff_10 rfl ?_
      refine a_goto C dL_switchOff_11 (tgt := 15) rfl ?_
      refine a_last C dL_switchOff_15 ?_
      refine a_goto (C.sl _) dL_switchOff_16 (tgt := 22) rfl ?_
      refine a_iconst (C.sl _) dL_switchOff_22 rfl ?_
      refine a_widen (Nat.zero_le 1) (Nat.zero_le 6) ?_
      exact a_iretL (C.sl _) rfl hlocks hret dL_switchOff_23 (by decide) rfl
  · obtain ⟨k, rfl⟩ : ∃ j, k = j + 1 := ⟨k - 1, by omega⟩
    rw [if_neg (by omega)]
    rcases k with _ | k
    · injection (show some "java/lang/IndexOutOfBoundsException" = some E from hE) with hE
      subst hE
      refine x_startH (hh := [(0, 16, 19, 21)]) (by decide) rfl rfl (Nat.le_of_ble_eq_true rfl) rfl ?_
      intro p e s m args below meth c C hret hlocks hT
      refine a_aload_n C dL_switchOff_0 2 rfl ?_
      refine a_iconst C dL_switchOff_1 rfl ?_
      refine a_aload_n C dL_switchOff_2 0 rfl ?_
      refine a_iload_n C dL_switchOff_3 1 rfl ?_
      refine a_callC C (k := 0) (As := [.int a]) (rest := [.int 0, .ref (x_b G + 183)]) (h G) (cwV 1 C.1.2.2.2.2 (gl_up gL_switchOff_X11_switchOff) rfl rfl rfl (by decide +kernel) ⟨by dsimp only [x_rm]; omega, by dsimp only [x_rm]; omega⟩) x_k0 (q := (RX11, TX11, 13)) rfl rfl rfl rfl (Nat.le_of_ble_eq_true rfl) dL_switchOff_4 ⟨Nat.le_of_ble_eq_true rfl, Nat.le_of_ble_eq_true rfl⟩ [] ⟨0, 16, 19, 21⟩ [] (hT.trans rfl) (fun z hz => absurd hz List.not_mem_nil) (by decide) (by decide) (List.mem_append_right _ (by decide +kernel)) (by decide +kernel) (fun w => ?_)
      refine a_astore_n C dL_switchOff_19 (Nat.le_of_ble_eq_true rfl) rfl ?_
      refine a_iconst C dL_switchOff_20 rfl ?_
      exact a_iretL C rfl hlocks hret dL_switchOff_21 (by decide) rfl
    · exact absurd (show none = some E from hE) (fun z => by cases z)
theorem w_streetOf (l : Launch) (G : xG) (d d1 : xd) (a : Int32) (k : Nat) (r : Int32) (h : y_C l yX11_streetOf wsX11_streetOf (fun G => [.ref (x_b G + 0), .int a]) ["java/lang/IndexOutOfBoundsException"] k (.int r) d d1) : x_ML G (if k = 0 then x_sl G r.toInt64 else G) l yL_streetOf (wsL_streetOf ++ ws_cl) 11 [.ref (x_b G + 0), .int a, .ref (x_b G + 183)] d (some (.int (nI k))) d1 := by
  obtain ⟨lv, hlv, ⟨rfl, h⟩ | ⟨E, h1, hE, h⟩⟩ := h
  · rw [if_pos rfl]
    refine x_startH (hh := [(0, 9, 12, 21)]) (by decide) rfl rfl (Nat.le_of_ble_eq_true rfl) rfl ?_
    intro p e s m args below meth c C hret hlocks hT
    refine a_aload_n C dL_streetOf_0 2 rfl ?_
    refine a_iconst C dL_streetOf_1 rfl ?_
    refine a_aload_n C dL_streetOf_2 0 rfl ?_
    refine a_iload_n C dL_streetOf_3 1 rfl ?_
    refine a_callV C (k := 0) (As := [.int a]) (rest := [.int 0, .ref (x_b G + 183)]) (h G) (cwV 1 C.1.2.2.2.2 (gl_up gL_streetOf_X11_streetOf) rfl rfl rfl (by decide +kernel) ⟨by dsimp only [x_rm]; omega, by dsimp only [x_rm]; omega⟩) x_k0 (q := (RX11, TX11, 13)) rfl rfl rfl rfl (Nat.le_of_ble_eq_true rfl) dL_streetOf_4 ⟨Nat.le_of_ble_eq_true rfl, Nat.le_of_ble_eq_true rfl⟩ ?_
    refine a_i2l C dL_streetOf_7 ?_
    refine a_last C dL_streetOf_8 ?_
    refine a_goto (C.sl _) dL_streetOf_9 (tgt := 15) rfl ?_
    refine a_iconst (C.sl _) dL_streetOf_15 rfl ?_
    refine a_widen (Nat.zero_le 1) (Nat.zero_le 6) ?_
    exact a_iretL (C.sl _) rfl hlocks hret dL_streetOf_16 (by decide) rfl
  · obtain ⟨k, rfl⟩ : ∃ j, k = j + 1 := ⟨k - 1, by omega⟩
    rw [if_neg (by omega)]
    rcases k with _ | k
    · injection (show some "java/lang/IndexOutOfBoundsException" = some E from hE) with hE
      subst hE
      refine x_startH (hh := [(0, 9, 12, 21)]) (by decide) rfl rfl (Nat.le_of_ble_eq_true rfl) rfl ?_
      intro p e s m args below meth c C hret hlocks hT
      refine a_aload_n C dL_streetOf_0 2 rfl ?_
      refine a_iconst C dL_streetOf_1 rfl ?_
      refine a_aload_n C dL_streetOf_2 0 rfl ?_
      refine a_iload_n C dL_streetOf_3 1 rfl ?_
      refine a_callC C (k := 0) (As := [.int a]) (rest := [.int 0, .ref (x_b G + 183)]) (h G) (cwV 1 C.1.2.2.2.2 (gl_up gL_streetOf_X11_streetOf) rfl rfl rfl (by decide +kernel) ⟨by dsimp only [x_rm]; omega, by dsimp only [x_rm]; omega⟩) x_k0 (q := (RX11, TX11, 13)) rfl rfl rfl rfl (Nat.le_of_ble_eq_true rfl) dL_streetOf_4 ⟨Nat.le_of_ble_eq_true rfl, Nat.le_of_ble_eq_true rfl⟩ [] ⟨0, 9, 12, 21⟩ [] (hT.trans rfl) (fun z hz => absurd hz List.not_mem_nil) (by decide) (by decide) (List.mem_append_right _ (by decide +kernel)) (by decide +kernel) (fun w => ?_)
      refine a_astore_n C dL_streetOf_12 (Nat.le_of_ble_eq_true rfl) rfl ?_
      refine a_iconst C dL_streetOf_13 rfl ?_
      exact a_iretL C rfl hlocks hret dL_streetOf_14 (by decide) rfl
    · exact absurd (show none = some E from hE) (fun z => by cases z)
theorem w_sharesOf (l : Launch) (G : xG) (d d1 : xd) (a : Int32) (k : Nat) (r : Int32) (h : y_C l yX11_sharesOf wsX11_sharesOf (fun G => [.ref (x_b G + 0), .int a]) ["java/lang/IndexOutOfBoundsException"] k (.int r) d d1) : x_ML G (if k = 0 then x_sl G r.toInt64 else G) l yL_sharesOf (wsL_sharesOf ++ ws_cl) 11 [.ref (x_b G + 0), .int a, .ref (x_b G + 183)] d (some (.int (nI k))) d1 := by
  obtain ⟨lv, hlv, ⟨rfl, h⟩ | ⟨E, h1, hE, h⟩⟩ := h
  · rw [if_pos rfl]
    refine x_startH (hh := [(0, 9, 12, 21)]) (by decide) rfl rfl (Nat.le_of_ble_eq_true rfl) rfl ?_
    intro p e s m args below meth c C hret hlocks hT
    refine a_aload_n C dL_sharesOf_0 2 rfl ?_
    refine a_iconst C dL_sharesOf_1 rfl ?_
    refine a_aload_n C dL_sharesOf_2 0 rfl ?_
    refine a_iload_n C dL_sharesOf_3 1 rfl ?_
    refine a_callV C (k := 0) (As := [.int a]) (rest := [.int 0, .ref (x_b G + 183)]) (h G) (cwV 1 C.1.2.2.2.2 (gl_up gL_sharesOf_X11_sharesOf) rfl rfl rfl (by decide +kernel) ⟨by dsimp only [x_rm]; omega, by dsimp only [x_rm]; omega⟩) x_k0 (q := (RX11, TX11, 13)) rfl rfl rfl rfl (Nat.le_of_ble_eq_true rfl) dL_sharesOf_4 ⟨Nat.le_of_ble_eq_true rfl, Nat.le_of_ble_eq_true rfl⟩ ?_
    refine a_i2l C dL_sharesOf_7 ?_
    refine a_last C dL_sharesOf_8 ?_
    refine a_goto (C.sl _) dL_sharesOf_9 (tgt := 15) rfl ?_
    refine a_iconst (C.sl _) dL_sharesOf_15 rfl ?_
    refine a_widen (Nat.zero_le 1) (Nat.zero_le 6) ?_
    exact a_iretL (C.sl _) rfl hlocks hret dL_sharesOf_16 (by decide) rfl
  · obtain ⟨k, rfl⟩ : ∃ j, k = j + 1 := ⟨k - 1, by omega⟩
    rw [if_neg (by omega)]
    rcases k with _ | k
    · injection (show some "java/lang/IndexOutOfBoundsException" = some E from hE) with hE
      subst hE
      refine x_startH (hh := [(0, 9, 12, 21)]) (by decide) rfl rfl (Nat.le_of_ble_eq_true rfl) rfl ?_
      intro p e s m args below meth c C hret hlocks hT
      refine a_aload_n C dL_sharesOf_0 2 rfl ?_
      refine a_iconst C dL_sharesOf_1 rfl ?_
      refine a_aload_n C dL_sharesOf_2 0 rfl ?_
      refine a_iload_n C dL_sharesOf_3 1 rfl ?_
      refine a_callC C (k := 0) (As := [.int a]) (rest := [.int 0, .ref (x_b G + 183)]) (h G) (cwV 1 C.1.2.2.2.2 (gl_up gL_sharesOf_X11_sharesOf) rfl rfl rfl (by decide +kernel) ⟨by dsimp only [x_rm]; omega, by dsimp only [x_rm]; omega⟩) x_k0 (q := (RX11, TX11, 13)) rfl rfl rfl rfl (Nat.le_of_ble_eq_true rfl) dL_sharesOf_4 ⟨Nat.le_of_ble_eq_true rfl, Nat.le_of_ble_eq_true rfl⟩ [] ⟨0, 9, 12, 21⟩ [] (hT.trans rfl) (fun z hz => absurd hz List.not_mem_nil) (by decide) (by decide) (List.mem_append_right _ (by decide +kernel)) (by decide +kernel) (fun w => ?_)
      refine a_astore_n C dL_sharesOf_12 (Nat.le_of_ble_eq_true rfl) rfl ?_
      refine a_iconst C dL_sharesOf_13 rfl ?_
      exact a_iretL C rfl hlocks hret dL_sharesOf_14 (by decide) rfl
    · exact absurd (show none = some E from hE) (fun z => by cases z)
theorem w_brightnessOf (l : Launch) (G : xG) (d d1 : xd) (a : Int32) (k : Nat) (r : Int32) (h : y_C l yX11_brightnessOf wsX11_brightnessOf (fun G => [.ref (x_b G + 0), .int a]) ["java/lang/IndexOutOfBoundsException"] k (.int r) d d1) : x_ML G (if k = 0 then x_sl G r.toInt64 else G) l yL_brightnessOf (wsL_brightnessOf ++ ws_cl) 11 [.ref (x_b G + 0), .int a, .ref (x_b G + 183)] d (some (.int (nI k))) d1 := by
  obtain ⟨lv, hlv, ⟨rfl, h⟩ | ⟨E, h1, hE, h⟩⟩ := h
  · rw [if_pos rfl]
    refine x_startH (hh := [(0, 9, 12, 21)]) (by decide) rfl rfl (Nat.le_of_ble_eq_true rfl) rfl ?_
    intro p e s m args below meth c C hret hlocks hT
    refine a_aload_n C dL_brightnessOf_0 2 rfl ?_
    refine a_iconst C dL_brightnessOf_1 rfl ?_
    refine a_aload_n C dL_brightnessOf_2 0 rfl ?_
    refine a_iload_n C dL_brightnessOf_3 1 rfl ?_
    refine a_callV C (k := 0) (As := [.int a]) (rest := [.int 0, .ref (x_b G + 183)]) (h G) (cwV 1 C.1.2.2.2.2 (gl_up gL_brightnessOf_X11_brightnessOf) rfl rfl rfl (by decide +kernel) ⟨by dsimp only [x_rm]; omega, by dsimp only [x_rm]; omega⟩) x_k0 (q := (RX11, TX11, 13)) rfl rfl rfl rfl (Nat.le_of_ble_eq_true rfl) dL_brightnessOf_4 ⟨Nat.le_of_ble_eq_true rfl, Nat.le_of_ble_eq_true rfl⟩ ?_
    refine a_i2l C dL_brightnessOf_7 ?_
    refine a_last C dL_brightnessOf_8 ?_
    refine a_goto (C.sl _) dL_brightnessOf_9 (tgt := 15) rfl ?_
    refine a_iconst (C.sl _) dL_brightnessOf_15 rfl ?_
    refine a_widen (Nat.zero_le 1) (Nat.zero_le 6) ?_
    exact a_iretL (C.sl _) rfl hlocks hret dL_brightnessOf_16 (by decide) rfl
  · obtain ⟨k, rfl⟩ : ∃ j, k = j + 1 := ⟨k - 1, by omega⟩
    rw [if_neg (by omega)]
    rcases k with _ | k
    · injection (show some "java/lang/IndexOutOfBoundsException" = some E from hE) with hE
      subst hE
      refine x_startH (hh := [(0, 9, 12, 21)]) (by decide) rfl rfl (Nat.le_of_ble_eq_true rfl) rfl ?_
      intro p e s m args below meth c C hret hlocks hT
      refine a_aload_n C dL_brightnessOf_0 2 rfl ?_
      refine a_iconst C dL_brightnessOf_1 rfl ?_
      refine a_aload_n C dL_brightnessOf_2 0 rfl ?_
      refine a_iload_n C dL_brightnessOf_3 1 rfl ?_
      refine a_callC C (k := 0) (As := [.int a]) (rest := [.int 0, .ref (x_b G + 183)]) (h G) (cwV 1 C.1.2.2.2.2 (gl_up gL_brightnessOf_X11_brightnessOf) rfl rfl rfl (by decide +kernel) ⟨by dsimp only [x_rm]; omega, by dsimp only [x_rm]; omega⟩) x_k0 (q := (RX11, TX11, 13)) rfl rfl rfl rfl (Nat.le_of_ble_eq_true rfl) dL_brightnessOf_4 ⟨Nat.le_of_ble_eq_true rfl, Nat.le_of_ble_eq_true rfl⟩ [] ⟨0, 9, 12, 21⟩ [] (hT.trans rfl) (fun z hz => absurd hz List.not_mem_nil) (by decide) (by decide) (List.mem_append_right _ (by decide +kernel)) (by decide +kernel) (fun w => ?_)
      refine a_astore_n C dL_brightnessOf_12 (Nat.le_of_ble_eq_true rfl) rfl ?_
      refine a_iconst C dL_brightnessOf_13 rfl ?_
      exact a_iretL C rfl hlocks hret dL_brightnessOf_14 (by decide) rfl
    · exact absurd (show none = some E from hE) (fun z => by cases z)
theorem w_isOn (l : Launch) (G : xG) (d d1 : xd) (a : Int32) (k : Nat) (r : Int32) (h : y_C l yX11_isOn wsX11_isOn (fun G => [.ref (x_b G + 0), .int a]) ["java/lang/IndexOutOfBoundsException"] k (.int r) d d1) : x_ML G (if k = 0 then x_sl G (x_lz r) else G) l yL_isOn (wsL_isOn ++ ws_cl) 11 [.ref (x_b G + 0), .int a, .ref (x_b G + 183)] d (some (.int (nI k))) d1 := by
  obtain ⟨lv, hlv, ⟨rfl, h⟩ | ⟨E, h1, hE, h⟩⟩ := h
  · rw [if_pos rfl]
    refine x_startH (hh := [(0, 16, 19, 21)]) (by decide) rfl rfl (Nat.le_of_ble_eq_true rfl) rfl ?_
    intro p e s m args below meth c C hret hlocks hT
    refine a_aload_n C dL_isOn_0 2 rfl ?_
    refine a_iconst C dL_isOn_1 rfl ?_
    refine a_aload_n C dL_isOn_2 0 rfl ?_
    refine a_iload_n C dL_isOn_3 1 rfl ?_
    refine a_callV C (k := 0) (As := [.int a]) (rest := [.int 0, .ref (x_b G + 183)]) (h G) (cwV 1 C.1.2.2.2.2 (gl_up gL_isOn_X11_isOn) rfl rfl rfl (by decide +kernel) ⟨by dsimp only [x_rm]; omega, by dsimp only [x_rm]; omega⟩) x_k0 (q := (RX11, TX11, 13)) rfl rfl rfl rfl (Nat.le_of_ble_eq_true rfl) dL_isOn_4 ⟨Nat.le_of_ble_eq_true rfl, Nat.le_of_ble_eq_true rfl⟩ ?_
    refine a_if_eq C dL_isOn_7 (tgt := 14) rfl (fun hz => ?_) (fun hz => ?_)
    · rw [show x_lz r = 0 from if_pos hz]
      refine a_lconst C dL_isOn_14 rfl ?_
      refine a_last C dL_isOn_15 ?_
      refine a_goto (C.sl _) dL_isOn_16 (tgt := 22) rfl ?_
      refine a_iconst (C.sl _) dL_isOn_22 rfl ?_
      refine a_widen (Nat.zero_le 1) (Nat.zero_le 6) ?_
      exact a_iretL (C.sl _) rfl hlocks hret dL_isOn_23 (by decide) rfl
    · rw [show x_lz r = 1 from if_neg hz]
      refine a_lconst C dL_isOn_10 rfl ?_
      refine a_goto C dL_isOn_11 (tgt := 15) rfl ?_
      refine a_last C dL_isOn_15 ?_
      refine a_goto (C.sl _) dL_isOn_16 (tgt := 22) rfl ?_
      refine a_iconst (C.sl _) dL_isOn_22 rfl ?_
      refine a_widen (Nat.zero_le 1) (Nat.zero_le 6) ?_
      exact a_iretL (C.sl _) rfl hlocks hret dL_isOn_23 (by decide) rfl
  · obtain ⟨k, rfl⟩ : ∃ j, k = j + 1 := ⟨k - 1, by omega⟩
    rw [if_neg (by omega)]
    rcases k with _ | k
    · injection (show some "java/lang/IndexOutOfBoundsException" = some E from hE) with hE
      subst hE
      refine x_startH (hh := [(0, 16, 19, 21)]) (by decide) rfl rfl (Nat.le_of_ble_eq_true rfl) rfl ?_
      intro p e s m args below meth c C hret hlocks hT
      refine a_aload_n C dL_isOn_0 2 rfl ?_
      refine a_iconst C dL_isOn_1 rfl ?_
      refine a_aload_n C dL_isOn_2 0 rfl ?_
      refine a_iload_n C dL_isOn_3 1 rfl ?_
      refine a_callC C (k := 0) (As := [.int a]) (rest := [.int 0, .ref (x_b G + 183)]) (h G) (cwV 1 C.1.2.2.2.2 (gl_up gL_isOn_X11_isOn) rfl rfl rfl (by decide +kernel) ⟨by dsimp only [x_rm]; omega, by dsimp only [x_rm]; omega⟩) x_k0 (q := (RX11, TX11, 13)) rfl rfl rfl rfl (Nat.le_of_ble_eq_true rfl) dL_isOn_4 ⟨Nat.le_of_ble_eq_true rfl, Nat.le_of_ble_eq_true rfl⟩ [] ⟨0, 16, 19, 21⟩ [] (hT.trans rfl) (fun z hz => absurd hz List.not_mem_nil) (by decide) (by decide) (List.mem_append_right _ (by decide +kernel)) (by decide +kernel) (fun w => ?_)
      refine a_astore_n C dL_isOn_19 (Nat.le_of_ble_eq_true rfl) rfl ?_
      refine a_iconst C dL_isOn_20 rfl ?_
      exact a_iretL C rfl hlocks hret dL_isOn_21 (by decide) rfl
    · exact absurd (show none = some E from hE) (fun z => by cases z)
theorem w_oilOf (l : Launch) (G : xG) (d d1 : xd) (a : Int32) (k : Nat) (r : Int32) (h : y_C l yX11_oilOf wsX11_oilOf (fun G => [.ref (x_b G + 0), .int a]) ["java/lang/IndexOutOfBoundsException"] k (.int r) d d1) : x_ML G (if k = 0 then x_sl G r.toInt64 else G) l yL_oilOf (wsL_oilOf ++ ws_cl) 11 [.ref (x_b G + 0), .int a, .ref (x_b G + 183)] d (some (.int (nI k))) d1 := by
  obtain ⟨lv, hlv, ⟨rfl, h⟩ | ⟨E, h1, hE, h⟩⟩ := h
  · rw [if_pos rfl]
    refine x_startH (hh := [(0, 9, 12, 21)]) (by decide) rfl rfl (Nat.le_of_ble_eq_true rfl) rfl ?_
    intro p e s m args below meth c C hret hlocks hT
    refine a_aload_n C dL_oilOf_0 2 rfl ?_
    refine a_iconst C dL_oilOf_1 rfl ?_
    refine a_aload_n C dL_oilOf_2 0 rfl ?_
    refine a_iload_n C dL_oilOf_3 1 rfl ?_
    refine a_callV C (k := 0) (As := [.int a]) (rest := [.int 0, .ref (x_b G + 183)]) (h G) (cwV 1 C.1.2.2.2.2 (gl_up gL_oilOf_X11_oilOf) rfl rfl rfl (by decide +kernel) ⟨by dsimp only [x_rm]; omega, by dsimp only [x_rm]; omega⟩) x_k0 (q := (RX11, TX11, 13)) rfl rfl rfl rfl (Nat.le_of_ble_eq_true rfl) dL_oilOf_4 ⟨Nat.le_of_ble_eq_true rfl, Nat.le_of_ble_eq_true rfl⟩ ?_
    refine a_i2l C dL_oilOf_7 ?_
    refine a_last C dL_oilOf_8 ?_
    refine a_goto (C.sl _) dL_oilOf_9 (tgt := 15) rfl ?_
    refine a_iconst (C.sl _) dL_oilOf_15 rfl ?_
    refine a_widen (Nat.zero_le 1) (Nat.zero_le 6) ?_
    exact a_iretL (C.sl _) rfl hlocks hret dL_oilOf_16 (by decide) rfl
  · obtain ⟨k, rfl⟩ : ∃ j, k = j + 1 := ⟨k - 1, by omega⟩
    rw [if_neg (by omega)]
    rcases k with _ | k
    · injection (show some "java/lang/IndexOutOfBoundsException" = some E from hE) with hE
      subst hE
      refine x_startH (hh := [(0, 9, 12, 21)]) (by decide) rfl rfl (Nat.le_of_ble_eq_true rfl) rfl ?_
      intro p e s m args below meth c C hret hlocks hT
      refine a_aload_n C dL_oilOf_0 2 rfl ?_
      refine a_iconst C dL_oilOf_1 rfl ?_
      refine a_aload_n C dL_oilOf_2 0 rfl ?_
      refine a_iload_n C dL_oilOf_3 1 rfl ?_
      refine a_callC C (k := 0) (As := [.int a]) (rest := [.int 0, .ref (x_b G + 183)]) (h G) (cwV 1 C.1.2.2.2.2 (gl_up gL_oilOf_X11_oilOf) rfl rfl rfl (by decide +kernel) ⟨by dsimp only [x_rm]; omega, by dsimp only [x_rm]; omega⟩) x_k0 (q := (RX11, TX11, 13)) rfl rfl rfl rfl (Nat.le_of_ble_eq_true rfl) dL_oilOf_4 ⟨Nat.le_of_ble_eq_true rfl, Nat.le_of_ble_eq_true rfl⟩ [] ⟨0, 9, 12, 21⟩ [] (hT.trans rfl) (fun z hz => absurd hz List.not_mem_nil) (by decide) (by decide) (List.mem_append_right _ (by decide +kernel)) (by decide +kernel) (fun w => ?_)
      refine a_astore_n C dL_oilOf_12 (Nat.le_of_ble_eq_true rfl) rfl ?_
      refine a_iconst C dL_oilOf_13 rfl ?_
      exact a_iretL C rfl hlocks hret dL_oilOf_14 (by decide) rfl
    · exact absurd (show none = some E from hE) (fun z => by cases z)
theorem w_wickOf (l : Launch) (G : xG) (d d1 : xd) (a : Int32) (k : Nat) (r : Int32) (h : y_C l yX11_wickOf wsX11_wickOf (fun G => [.ref (x_b G + 0), .int a]) ["java/lang/IndexOutOfBoundsException"] k (.int r) d d1) : x_ML G (if k = 0 then x_sl G r.toInt64 else G) l yL_wickOf (wsL_wickOf ++ ws_cl) 11 [.ref (x_b G + 0), .int a, .ref (x_b G + 183)] d (some (.int (nI k))) d1 := by
  obtain ⟨lv, hlv, ⟨rfl, h⟩ | ⟨E, h1, hE, h⟩⟩ := h
  · rw [if_pos rfl]
    refine x_startH (hh := [(0, 9, 12, 21)]) (by decide) rfl rfl (Nat.le_of_ble_eq_true rfl) rfl ?_
    intro p e s m args below meth c C hret hlocks hT
    refine a_aload_n C dL_wickOf_0 2 rfl ?_
    refine a_iconst C dL_wickOf_1 rfl ?_
    refine a_aload_n C dL_wickOf_2 0 rfl ?_
    refine a_iload_n C dL_wickOf_3 1 rfl ?_
    refine a_callV C (k := 0) (As := [.int a]) (rest := [.int 0, .ref (x_b G + 183)]) (h G) (cwV 1 C.1.2.2.2.2 (gl_up gL_wickOf_X11_wickOf) rfl rfl rfl (by decide +kernel) ⟨by dsimp only [x_rm]; omega, by dsimp only [x_rm]; omega⟩) x_k0 (q := (RX11, TX11, 13)) rfl rfl rfl rfl (Nat.le_of_ble_eq_true rfl) dL_wickOf_4 ⟨Nat.le_of_ble_eq_true rfl, Nat.le_of_ble_eq_true rfl⟩ ?_
    refine a_i2l C dL_wickOf_7 ?_
    refine a_last C dL_wickOf_8 ?_
    refine a_goto (C.sl _) dL_wickOf_9 (tgt := 15) rfl ?_
    refine a_iconst (C.sl _) dL_wickOf_15 rfl ?_
    refine a_widen (Nat.zero_le 1) (Nat.zero_le 6) ?_
    exact a_iretL (C.sl _) rfl hlocks hret dL_wickOf_16 (by decide) rfl
  · obtain ⟨k, rfl⟩ : ∃ j, k = j + 1 := ⟨k - 1, by omega⟩
    rw [if_neg (by omega)]
    rcases k with _ | k
    · injection (show some "java/lang/IndexOutOfBoundsException" = some E from hE) with hE
      subst hE
      refine x_startH (hh := [(0, 9, 12, 21)]) (by decide) rfl rfl (Nat.le_of_ble_eq_true rfl) rfl ?_
      intro p e s m args below meth c C hret hlocks hT
      refine a_aload_n C dL_wickOf_0 2 rfl ?_
      refine a_iconst C dL_wickOf_1 rfl ?_
      refine a_aload_n C dL_wickOf_2 0 rfl ?_
      refine a_iload_n C dL_wickOf_3 1 rfl ?_
      refine a_callC C (k := 0) (As := [.int a]) (rest := [.int 0, .ref (x_b G + 183)]) (h G) (cwV 1 C.1.2.2.2.2 (gl_up gL_wickOf_X11_wickOf) rfl rfl rfl (by decide +kernel) ⟨by dsimp only [x_rm]; omega, by dsimp only [x_rm]; omega⟩) x_k0 (q := (RX11, TX11, 13)) rfl rfl rfl rfl (Nat.le_of_ble_eq_true rfl) dL_wickOf_4 ⟨Nat.le_of_ble_eq_true rfl, Nat.le_of_ble_eq_true rfl⟩ [] ⟨0, 9, 12, 21⟩ [] (hT.trans rfl) (fun z hz => absurd hz List.not_mem_nil) (by decide) (by decide) (List.mem_append_right _ (by decide +kernel)) (by decide +kernel) (fun w => ?_)
      refine a_astore_n C dL_wickOf_12 (Nat.le_of_ble_eq_true rfl) rfl ?_
      refine a_iconst C dL_wickOf_13 rfl ?_
      exact a_iretL C rfl hlocks hret dL_wickOf_14 (by decide) rfl
    · exact absurd (show none = some E from hE) (fun z => by cases z)
theorem w_balanceOf (l : Launch) (G : xG) (d d1 : xd) (a : Int32) (k : Nat) (r : Int32) (h : y_C l yX11_balanceOf wsX11_balanceOf (fun G => [.ref (x_b G + 0), .int a]) ["java/lang/IndexOutOfBoundsException"] k (.int r) d d1) : x_ML G (if k = 0 then x_sl G r.toInt64 else G) l yL_balanceOf (wsL_balanceOf ++ ws_cl) 11 [.ref (x_b G + 0), .int a, .ref (x_b G + 183)] d (some (.int (nI k))) d1 := by
  obtain ⟨lv, hlv, ⟨rfl, h⟩ | ⟨E, h1, hE, h⟩⟩ := h
  · rw [if_pos rfl]
    refine x_startH (hh := [(0, 9, 12, 21)]) (by decide) rfl rfl (Nat.le_of_ble_eq_true rfl) rfl ?_
    intro p e s m args below meth c C hret hlocks hT
    refine a_aload_n C dL_balanceOf_0 2 rfl ?_
    refine a_iconst C dL_balanceOf_1 rfl ?_
    refine a_aload_n C dL_balanceOf_2 0 rfl ?_
    refine a_iload_n C dL_balanceOf_3 1 rfl ?_
    refine a_callV C (k := 0) (As := [.int a]) (rest := [.int 0, .ref (x_b G + 183)]) (h G) (cwV 1 C.1.2.2.2.2 (gl_up gL_balanceOf_X11_balanceOf) rfl rfl rfl (by decide +kernel) ⟨by dsimp only [x_rm]; omega, by dsimp only [x_rm]; omega⟩) x_k0 (q := (RX11, TX11, 13)) rfl rfl rfl rfl (Nat.le_of_ble_eq_true rfl) dL_balanceOf_4 ⟨Nat.le_of_ble_eq_true rfl, Nat.le_of_ble_eq_true rfl⟩ ?_
    refine a_i2l C dL_balanceOf_7 ?_
    refine a_last C dL_balanceOf_8 ?_
    refine a_goto (C.sl _) dL_balanceOf_9 (tgt := 15) rfl ?_
    refine a_iconst (C.sl _) dL_balanceOf_15 rfl ?_
    refine a_widen (Nat.zero_le 1) (Nat.zero_le 6) ?_
    exact a_iretL (C.sl _) rfl hlocks hret dL_balanceOf_16 (by decide) rfl
  · obtain ⟨k, rfl⟩ : ∃ j, k = j + 1 := ⟨k - 1, by omega⟩
    rw [if_neg (by omega)]
    rcases k with _ | k
    · injection (show some "java/lang/IndexOutOfBoundsException" = some E from hE) with hE
      subst hE
      refine x_startH (hh := [(0, 9, 12, 21)]) (by decide) rfl rfl (Nat.le_of_ble_eq_true rfl) rfl ?_
      intro p e s m args below meth c C hret hlocks hT
      refine a_aload_n C dL_balanceOf_0 2 rfl ?_
      refine a_iconst C dL_balanceOf_1 rfl ?_
      refine a_aload_n C dL_balanceOf_2 0 rfl ?_
      refine a_iload_n C dL_balanceOf_3 1 rfl ?_
      refine a_callC C (k := 0) (As := [.int a]) (rest := [.int 0, .ref (x_b G + 183)]) (h G) (cwV 1 C.1.2.2.2.2 (gl_up gL_balanceOf_X11_balanceOf) rfl rfl rfl (by decide +kernel) ⟨by dsimp only [x_rm]; omega, by dsimp only [x_rm]; omega⟩) x_k0 (q := (RX11, TX11, 13)) rfl rfl rfl rfl (Nat.le_of_ble_eq_true rfl) dL_balanceOf_4 ⟨Nat.le_of_ble_eq_true rfl, Nat.le_of_ble_eq_true rfl⟩ [] ⟨0, 9, 12, 21⟩ [] (hT.trans rfl) (fun z hz => absurd hz List.not_mem_nil) (by decide) (by decide) (List.mem_append_right _ (by decide +kernel)) (by decide +kernel) (fun w => ?_)
      refine a_astore_n C dL_balanceOf_12 (Nat.le_of_ble_eq_true rfl) rfl ?_
      refine a_iconst C dL_balanceOf_13 rfl ?_
      exact a_iretL C rfl hlocks hret dL_balanceOf_14 (by decide) rfl
    · exact absurd (show none = some E from hE) (fun z => by cases z)
theorem w_deliverOil (l : Launch) (G : xG) (d d1 : xd) (a : Int32) (k : Nat) (r : Int32) (h : y_C l yX11_deliverOil wsX11_deliverOil (fun G => [.ref (x_b G + 0), .int a]) ["java/lang/IllegalArgumentException", "java/lang/IllegalStateException"] k (.int r) d d1) : x_ML G (if k = 0 then x_sl G r.toInt64 else G) l yL_deliverOil (wsL_deliverOil ++ ws_cl) 11 [.ref (x_b G + 0), .int a, .ref (x_b G + 183)] d (some (.int (nI k))) d1 := by
  obtain ⟨lv, hlv, ⟨rfl, h⟩ | ⟨E, h1, hE, h⟩⟩ := h
  · rw [if_pos rfl]
    refine x_startH (hh := [(0, 9, 12, 13), (0, 9, 15, 15)]) (by decide) rfl rfl (Nat.le_of_ble_eq_true rfl) rfl ?_
    intro p e s m args below meth c C hret hlocks hT
    refine a_aload_n C dL_deliverOil_0 2 rfl ?_
    refine a_iconst C dL_deliverOil_1 rfl ?_
    refine a_aload_n C dL_deliverOil_2 0 rfl ?_
    refine a_iload_n C dL_deliverOil_3 1 rfl ?_
    refine a_callV C (k := 0) (As := [.int a]) (rest := [.int 0, .ref (x_b G + 183)]) (h G) (cwV 1 C.1.2.2.2.2 (gl_up gL_deliverOil_X11_deliverOil) rfl rfl rfl (by decide +kernel) ⟨by dsimp only [x_rm]; omega, by dsimp only [x_rm]; omega⟩) x_k0 (q := (RX11, TX11, 13)) rfl rfl rfl rfl (Nat.le_of_ble_eq_true rfl) dL_deliverOil_4 ⟨Nat.le_of_ble_eq_true rfl, Nat.le_of_ble_eq_true rfl⟩ ?_
    refine a_i2l C dL_deliverOil_7 ?_
    refine a_last C dL_deliverOil_8 ?_
    refine a_goto (C.sl _) dL_deliverOil_9 (tgt := 18) rfl ?_
    refine a_iconst (C.sl _) dL_deliverOil_18 rfl ?_
    refine a_widen (Nat.zero_le 1) (Nat.zero_le 6) ?_
    exact a_iretL (C.sl _) rfl hlocks hret dL_deliverOil_19 (by decide) rfl
  · obtain ⟨k, rfl⟩ : ∃ j, k = j + 1 := ⟨k - 1, by omega⟩
    rw [if_neg (by omega)]
    rcases k with _ | _ | k
    · injection (show some "java/lang/IllegalArgumentException" = some E from hE) with hE
      subst hE
      refine x_startH (hh := [(0, 9, 12, 13), (0, 9, 15, 15)]) (by decide) rfl rfl (Nat.le_of_ble_eq_true rfl) rfl ?_
      intro p e s m args below meth c C hret hlocks hT
      refine a_aload_n C dL_deliverOil_0 2 rfl ?_
      refine a_iconst C dL_deliverOil_1 rfl ?_
      refine a_aload_n C dL_deliverOil_2 0 rfl ?_
      refine a_iload_n C dL_deliverOil_3 1 rfl ?_
      refine a_callC C (k := 0) (As := [.int a]) (rest := [.int 0, .ref (x_b G + 183)]) (h G) (cwV 1 C.1.2.2.2.2 (gl_up gL_deliverOil_X11_deliverOil) rfl rfl rfl (by decide +kernel) ⟨by dsimp only [x_rm]; omega, by dsimp only [x_rm]; omega⟩) x_k0 (q := (RX11, TX11, 13)) rfl rfl rfl rfl (Nat.le_of_ble_eq_true rfl) dL_deliverOil_4 ⟨Nat.le_of_ble_eq_true rfl, Nat.le_of_ble_eq_true rfl⟩ [] ⟨0, 9, 12, 13⟩ [⟨0, 9, 15, 15⟩] (hT.trans rfl) (fun z hz => absurd hz List.not_mem_nil) (by decide) (by decide) (List.mem_append_right _ (by decide +kernel)) (by decide +kernel) (fun w => ?_)
      refine a_astore_n C dL_deliverOil_12 (Nat.le_of_ble_eq_true rfl) rfl ?_
      refine a_iconst C dL_deliverOil_13 rfl ?_
      exact a_iretL C rfl hlocks hret dL_deliverOil_14 (by decide) rfl
    · injection (show some "java/lang/IllegalStateException" = some E from hE) with hE
      subst hE
      refine x_startH (hh := [(0, 9, 12, 13), (0, 9, 15, 15)]) (by decide) rfl rfl (Nat.le_of_ble_eq_true rfl) rfl ?_
      intro p e s m args below meth c C hret hlocks hT
      refine a_aload_n C dL_deliverOil_0 2 rfl ?_
      refine a_iconst C dL_deliverOil_1 rfl ?_
      refine a_aload_n C dL_deliverOil_2 0 rfl ?_
      refine a_iload_n C dL_deliverOil_3 1 rfl ?_
      refine a_callC C (k := 0) (As := [.int a]) (rest := [.int 0, .ref (x_b G + 183)]) (h G) (cwV 1 C.1.2.2.2.2 (gl_up gL_deliverOil_X11_deliverOil) rfl rfl rfl (by decide +kernel) ⟨by dsimp only [x_rm]; omega, by dsimp only [x_rm]; omega⟩) x_k0 (q := (RX11, TX11, 13)) rfl rfl rfl rfl (Nat.le_of_ble_eq_true rfl) dL_deliverOil_4 ⟨Nat.le_of_ble_eq_true rfl, Nat.le_of_ble_eq_true rfl⟩ [⟨0, 9, 12, 13⟩] ⟨0, 9, 15, 15⟩ [] (hT.trans rfl) (fun z hz => by
        cases List.mem_singleton.mp hz
        exact ⟨by decide, "java/lang/IllegalArgumentException", List.mem_append_right _ (by decide +kernel), by decide +kernel⟩) (by decide) (by decide) (List.mem_append_right _ (by decide +kernel)) (by decide +kernel) (fun w => ?_)
      refine a_astore_n C dL_deliverOil_15 (Nat.le_of_ble_eq_true rfl) rfl ?_
      refine a_iconst C dL_deliverOil_16 rfl ?_
      exact a_iretL C rfl hlocks hret dL_deliverOil_17 (by decide) rfl
    · exact absurd (show none = some E from hE) (fun z => by cases z)
theorem w_buyOil (l : Launch) (G : xG) (d d1 : xd) (a b : Int32) (k : Nat) (r : Int32) (h : y_C l yX11_buyOil wsX11_buyOil (fun G => [.ref (x_b G + 0), .int a, .int b]) ["java/lang/IndexOutOfBoundsException", "java/lang/IllegalArgumentException", "java/lang/IllegalStateException"] k (.int r) d d1) : x_ML G (if k = 0 then x_sl G r.toInt64 else G) l yL_buyOil (wsL_buyOil ++ ws_cl) 11 [.ref (x_b G + 0), .int a, .int b, .ref (x_b G + 183)] d (some (.int (nI k))) d1 := by
  obtain ⟨lv, hlv, ⟨rfl, h⟩ | ⟨E, h1, hE, h⟩⟩ := h
  · rw [if_pos rfl]
    refine x_startH (hh := [(0, 10, 13, 21), (0, 10, 17, 13), (0, 10, 21, 15)]) (by decide) rfl rfl (Nat.le_of_ble_eq_true rfl) rfl ?_
    intro p e s m args below meth c C hret hlocks hT
    refine a_aload_n C dL_buyOil_0 3 rfl ?_
    refine a_iconst C dL_buyOil_1 rfl ?_
    refine a_aload_n C dL_buyOil_2 0 rfl ?_
    refine a_iload_n C dL_buyOil_3 1 rfl ?_
    refine a_iload_n C dL_buyOil_4 2 rfl ?_
    refine a_callV C (k := 0) (As := [.int a, .int b]) (rest := [.int 0, .ref (x_b G + 183)]) (h G) (cwV 2 C.1.2.2.2.2 (gl_up gL_buyOil_X11_buyOil) rfl rfl rfl (by decide +kernel) ⟨by dsimp only [x_rm]; omega, by dsimp only [x_rm]; omega⟩) x_k0 (q := (RX11, TX11, 13)) rfl rfl rfl rfl (Nat.le_of_ble_eq_true rfl) dL_buyOil_5 ⟨Nat.le_of_ble_eq_true rfl, Nat.le_of_ble_eq_true rfl⟩ ?_
    refine a_i2l C dL_buyOil_8 ?_
    refine a_last C dL_buyOil_9 ?_
    refine a_goto (C.sl _) dL_buyOil_10 (tgt := 25) rfl ?_
    refine a_iconst (C.sl _) dL_buyOil_25 rfl ?_
    refine a_widen (Nat.zero_le 1) (Nat.zero_le 6) ?_
    exact a_iretL (C.sl _) rfl hlocks hret dL_buyOil_26 (by decide) rfl
  · obtain ⟨k, rfl⟩ : ∃ j, k = j + 1 := ⟨k - 1, by omega⟩
    rw [if_neg (by omega)]
    rcases k with _ | _ | _ | k
    · injection (show some "java/lang/IndexOutOfBoundsException" = some E from hE) with hE
      subst hE
      refine x_startH (hh := [(0, 10, 13, 21), (0, 10, 17, 13), (0, 10, 21, 15)]) (by decide) rfl rfl (Nat.le_of_ble_eq_true rfl) rfl ?_
      intro p e s m args below meth c C hret hlocks hT
      refine a_aload_n C dL_buyOil_0 3 rfl ?_
      refine a_iconst C dL_buyOil_1 rfl ?_
      refine a_aload_n C dL_buyOil_2 0 rfl ?_
      refine a_iload_n C dL_buyOil_3 1 rfl ?_
      refine a_iload_n C dL_buyOil_4 2 rfl ?_
      refine a_callC C (k := 0) (As := [.int a, .int b]) (rest := [.int 0, .ref (x_b G + 183)]) (h G) (cwV 2 C.1.2.2.2.2 (gl_up gL_buyOil_X11_buyOil) rfl rfl rfl (by decide +kernel) ⟨by dsimp only [x_rm]; omega, by dsimp only [x_rm]; omega⟩) x_k0 (q := (RX11, TX11, 13)) rfl rfl rfl rfl (Nat.le_of_ble_eq_true rfl) dL_buyOil_5 ⟨Nat.le_of_ble_eq_true rfl, Nat.le_of_ble_eq_true rfl⟩ [] ⟨0, 10, 13, 21⟩ [⟨0, 10, 17, 13⟩, ⟨0, 10, 21, 15⟩] (hT.trans rfl) (fun z hz => absurd hz List.not_mem_nil) (by decide) (by decide) (List.mem_append_right _ (by decide +kernel)) (by decide +kernel) (fun w => ?_)
      refine a_astore C dL_buyOil_13 (Nat.le_of_ble_eq_true rfl) rfl ?_
      refine a_iconst C dL_buyOil_15 rfl ?_
      exact a_iretL C rfl hlocks hret dL_buyOil_16 (by decide) rfl
    · injection (show some "java/lang/IllegalArgumentException" = some E from hE) with hE
      subst hE
      refine x_startH (hh := [(0, 10, 13, 21), (0, 10, 17, 13), (0, 10, 21, 15)]) (by decide) rfl rfl (Nat.le_of_ble_eq_true rfl) rfl ?_
      intro p e s m args below meth c C hret hlocks hT
      refine a_aload_n C dL_buyOil_0 3 rfl ?_
      refine a_iconst C dL_buyOil_1 rfl ?_
      refine a_aload_n C dL_buyOil_2 0 rfl ?_
      refine a_iload_n C dL_buyOil_3 1 rfl ?_
      refine a_iload_n C dL_buyOil_4 2 rfl ?_
      refine a_callC C (k := 0) (As := [.int a, .int b]) (rest := [.int 0, .ref (x_b G + 183)]) (h G) (cwV 2 C.1.2.2.2.2 (gl_up gL_buyOil_X11_buyOil) rfl rfl rfl (by decide +kernel) ⟨by dsimp only [x_rm]; omega, by dsimp only [x_rm]; omega⟩) x_k0 (q := (RX11, TX11, 13)) rfl rfl rfl rfl (Nat.le_of_ble_eq_true rfl) dL_buyOil_5 ⟨Nat.le_of_ble_eq_true rfl, Nat.le_of_ble_eq_true rfl⟩ [⟨0, 10, 13, 21⟩] ⟨0, 10, 17, 13⟩ [⟨0, 10, 21, 15⟩] (hT.trans rfl) (fun z hz => by
        cases List.mem_singleton.mp hz
        exact ⟨by decide, "java/lang/IndexOutOfBoundsException", List.mem_append_right _ (by decide +kernel), by decide +kernel⟩) (by decide) (by decide) (List.mem_append_right _ (by decide +kernel)) (by decide +kernel) (fun w => ?_)
      refine a_astore C dL_buyOil_17 (Nat.le_of_ble_eq_true rfl) rfl ?_
      refine a_iconst C dL_buyOil_19 rfl ?_
      exact a_iretL C rfl hlocks hret dL_buyOil_20 (by decide) rfl
    · injection (show some "java/lang/IllegalStateException" = some E from hE) with hE
      subst hE
      refine x_startH (hh := [(0, 10, 13, 21), (0, 10, 17, 13), (0, 10, 21, 15)]) (by decide) rfl rfl (Nat.le_of_ble_eq_true rfl) rfl ?_
      intro p e s m args below meth c C hret hlocks hT
      refine a_aload_n C dL_buyOil_0 3 rfl ?_
      refine a_iconst C dL_buyOil_1 rfl ?_
      refine a_aload_n C dL_buyOil_2 0 rfl ?_
      refine a_iload_n C dL_buyOil_3 1 rfl ?_
      refine a_iload_n C dL_buyOil_4 2 rfl ?_
      refine a_callC C (k := 0) (As := [.int a, .int b]) (rest := [.int 0, .ref (x_b G + 183)]) (h G) (cwV 2 C.1.2.2.2.2 (gl_up gL_buyOil_X11_buyOil) rfl rfl rfl (by decide +kernel) ⟨by dsimp only [x_rm]; omega, by dsimp only [x_rm]; omega⟩) x_k0 (q := (RX11, TX11, 13)) rfl rfl rfl rfl (Nat.le_of_ble_eq_true rfl) dL_buyOil_5 ⟨Nat.le_of_ble_eq_true rfl, Nat.le_of_ble_eq_true rfl⟩ [⟨0, 10, 13, 21⟩, ⟨0, 10, 17, 13⟩] ⟨0, 10, 21, 15⟩ [] (hT.trans rfl) (fun z hz => by
        rcases List.mem_cons.mp hz with rfl | hz
        · exact ⟨by decide, "java/lang/IndexOutOfBoundsException", List.mem_append_right _ (by decide +kernel), by decide +kernel⟩
        · cases List.mem_singleton.mp hz
          exact ⟨by decide, "java/lang/IllegalArgumentException", List.mem_append_right _ (by decide +kernel), by decide +kernel⟩) (by decide) (by decide) (List.mem_append_right _ (by decide +kernel)) (by decide +kernel) (fun w => ?_)
      refine a_astore C dL_buyOil_21 (Nat.le_of_ble_eq_true rfl) rfl ?_
      refine a_iconst C dL_buyOil_23 rfl ?_
      exact a_iretL C rfl hlocks hret dL_buyOil_24 (by decide) rfl
    · exact absurd (show none = some E from hE) (fun z => by cases z)
theorem w_donateWicks (l : Launch) (G : xG) (d d1 : xd) (a : Int32) (k : Nat) (r : Int32) (h : y_C l yX11_donateWicks wsX11_donateWicks (fun G => [.ref (x_b G + 0), .int a]) ["java/lang/IllegalArgumentException", "java/lang/IllegalStateException"] k (.int r) d d1) : x_ML G (if k = 0 then x_sl G r.toInt64 else G) l yL_donateWicks (wsL_donateWicks ++ ws_cl) 11 [.ref (x_b G + 0), .int a, .ref (x_b G + 183)] d (some (.int (nI k))) d1 := by
  obtain ⟨lv, hlv, ⟨rfl, h⟩ | ⟨E, h1, hE, h⟩⟩ := h
  · rw [if_pos rfl]
    refine x_startH (hh := [(0, 9, 12, 13), (0, 9, 15, 15)]) (by decide) rfl rfl (Nat.le_of_ble_eq_true rfl) rfl ?_
    intro p e s m args below meth c C hret hlocks hT
    refine a_aload_n C dL_donateWicks_0 2 rfl ?_
    refine a_iconst C dL_donateWicks_1 rfl ?_
    refine a_aload_n C dL_donateWicks_2 0 rfl ?_
    refine a_iload_n C dL_donateWicks_3 1 rfl ?_
    refine a_callV C (k := 0) (As := [.int a]) (rest := [.int 0, .ref (x_b G + 183)]) (h G) (cwV 1 C.1.2.2.2.2 (gl_up gL_donateWicks_X11_donateWicks) rfl rfl rfl (by decide +kernel) ⟨by dsimp only [x_rm]; omega, by dsimp only [x_rm]; omega⟩) x_k0 (q := (RX11, TX11, 13)) rfl rfl rfl rfl (Nat.le_of_ble_eq_true rfl) dL_donateWicks_4 ⟨Nat.le_of_ble_eq_true rfl, Nat.le_of_ble_eq_true rfl⟩ ?_
    refine a_i2l C dL_donateWicks_7 ?_
    refine a_last C dL_donateWicks_8 ?_
    refine a_goto (C.sl _) dL_donateWicks_9 (tgt := 18) rfl ?_
    refine a_iconst (C.sl _) dL_donateWicks_18 rfl ?_
    refine a_widen (Nat.zero_le 1) (Nat.zero_le 6) ?_
    exact a_iretL (C.sl _) rfl hlocks hret dL_donateWicks_19 (by decide) rfl
  · obtain ⟨k, rfl⟩ : ∃ j, k = j + 1 := ⟨k - 1, by omega⟩
    rw [if_neg (by omega)]
    rcases k with _ | _ | k
    · injection (show some "java/lang/IllegalArgumentException" = some E from hE) with hE
      subst hE
      refine x_startH (hh := [(0, 9, 12, 13), (0, 9, 15, 15)]) (by decide) rfl rfl (Nat.le_of_ble_eq_true rfl) rfl ?_
      intro p e s m args below meth c C hret hlocks hT
      refine a_aload_n C dL_donateWicks_0 2 rfl ?_
      refine a_iconst C dL_donateWicks_1 rfl ?_
      refine a_aload_n C dL_donateWicks_2 0 rfl ?_
      refine a_iload_n C dL_donateWicks_3 1 rfl ?_
      refine a_callC C (k := 0) (As := [.int a]) (rest := [.int 0, .ref (x_b G + 183)]) (h G) (cwV 1 C.1.2.2.2.2 (gl_up gL_donateWicks_X11_donateWicks) rfl rfl rfl (by decide +kernel) ⟨by dsimp only [x_rm]; omega, by dsimp only [x_rm]; omega⟩) x_k0 (q := (RX11, TX11, 13)) rfl rfl rfl rfl (Nat.le_of_ble_eq_true rfl) dL_donateWicks_4 ⟨Nat.le_of_ble_eq_true rfl, Nat.le_of_ble_eq_true rfl⟩ [] ⟨0, 9, 12, 13⟩ [⟨0, 9, 15, 15⟩] (hT.trans rfl) (fun z hz => absurd hz List.not_mem_nil) (by decide) (by decide) (List.mem_append_right _ (by decide +kernel)) (by decide +kernel) (fun w => ?_)
      refine a_astore_n C dL_donateWicks_12 (Nat.le_of_ble_eq_true rfl) rfl ?_
      refine a_iconst C dL_donateWicks_13 rfl ?_
      exact a_iretL C rfl hlocks hret dL_donateWicks_14 (by decide) rfl
    · injection (show some "java/lang/IllegalStateException" = some E from hE) with hE
      subst hE
      refine x_startH (hh := [(0, 9, 12, 13), (0, 9, 15, 15)]) (by decide) rfl rfl (Nat.le_of_ble_eq_true rfl) rfl ?_
      intro p e s m args below meth c C hret hlocks hT
      refine a_aload_n C dL_donateWicks_0 2 rfl ?_
      refine a_iconst C dL_donateWicks_1 rfl ?_
      refine a_aload_n C dL_donateWicks_2 0 rfl ?_
      refine a_iload_n C dL_donateWicks_3 1 rfl ?_
      refine a_callC C (k := 0) (As := [.int a]) (rest := [.int 0, .ref (x_b G + 183)]) (h G) (cwV 1 C.1.2.2.2.2 (gl_up gL_donateWicks_X11_donateWicks) rfl rfl rfl (by decide +kernel) ⟨by dsimp only [x_rm]; omega, by dsimp only [x_rm]; omega⟩) x_k0 (q := (RX11, TX11, 13)) rfl rfl rfl rfl (Nat.le_of_ble_eq_true rfl) dL_donateWicks_4 ⟨Nat.le_of_ble_eq_true rfl, Nat.le_of_ble_eq_true rfl⟩ [⟨0, 9, 12, 13⟩] ⟨0, 9, 15, 15⟩ [] (hT.trans rfl) (fun z hz => by
        cases List.mem_singleton.mp hz
        exact ⟨by decide, "java/lang/IllegalArgumentException", List.mem_append_right _ (by decide +kernel), by decide +kernel⟩) (by decide) (by decide) (List.mem_append_right _ (by decide +kernel)) (by decide +kernel) (fun w => ?_)
      refine a_astore_n C dL_donateWicks_15 (Nat.le_of_ble_eq_true rfl) rfl ?_
      refine a_iconst C dL_donateWicks_16 rfl ?_
      exact a_iretL C rfl hlocks hret dL_donateWicks_17 (by decide) rfl
    · exact absurd (show none = some E from hE) (fun z => by cases z)
theorem w_giveWick (l : Launch) (G : xG) (d d1 : xd) (a b : Int32) (k : Nat) (r : Int32) (h : y_C l yX11_giveWick wsX11_giveWick (fun G => [.ref (x_b G + 0), .int a, .int b]) ["java/lang/IndexOutOfBoundsException", "java/lang/IllegalArgumentException", "java/lang/IllegalStateException"] k (.int r) d d1) : x_ML G (if k = 0 then x_sl G r.toInt64 else G) l yL_giveWick (wsL_giveWick ++ ws_cl) 11 [.ref (x_b G + 0), .int a, .int b, .ref (x_b G + 183)] d (some (.int (nI k))) d1 := by
  obtain ⟨lv, hlv, ⟨rfl, h⟩ | ⟨E, h1, hE, h⟩⟩ := h
  · rw [if_pos rfl]
    refine x_startH (hh := [(0, 10, 13, 21), (0, 10, 17, 13), (0, 10, 21, 15)]) (by decide) rfl rfl (Nat.le_of_ble_eq_true rfl) rfl ?_
    intro p e s m args below meth c C hret hlocks hT
    refine a_aload_n C dL_giveWick_0 3 rfl ?_
    refine a_iconst C dL_giveWick_1 rfl ?_
    refine a_aload_n C dL_giveWick_2 0 rfl ?_
    refine a_iload_n C dL_giveWick_3 1 rfl ?_
    refine a_iload_n C dL_giveWick_4 2 rfl ?_
    refine a_callV C (k := 0) (As := [.int a, .int b]) (rest := [.int 0, .ref (x_b G + 183)]) (h G) (cwV 2 C.1.2.2.2.2 (gl_up gL_giveWick_X11_giveWick) rfl rfl rfl (by decide +kernel) ⟨by dsimp only [x_rm]; omega, by dsimp only [x_rm]; omega⟩) x_k0 (q := (RX11, TX11, 13)) rfl rfl rfl rfl (Nat.le_of_ble_eq_true rfl) dL_giveWick_5 ⟨Nat.le_of_ble_eq_true rfl, Nat.le_of_ble_eq_true rfl⟩ ?_
    refine a_i2l C dL_giveWick_8 ?_
    refine a_last C dL_giveWick_9 ?_
    refine a_goto (C.sl _) dL_giveWick_10 (tgt := 25) rfl ?_
    refine a_iconst (C.sl _) dL_giveWick_25 rfl ?_
    refine a_widen (Nat.zero_le 1) (Nat.zero_le 6) ?_
    exact a_iretL (C.sl _) rfl hlocks hret dL_giveWick_26 (by decide) rfl
  · obtain ⟨k, rfl⟩ : ∃ j, k = j + 1 := ⟨k - 1, by omega⟩
    rw [if_neg (by omega)]
    rcases k with _ | _ | _ | k
    · injection (show some "java/lang/IndexOutOfBoundsException" = some E from hE) with hE
      subst hE
      refine x_startH (hh := [(0, 10, 13, 21), (0, 10, 17, 13), (0, 10, 21, 15)]) (by decide) rfl rfl (Nat.le_of_ble_eq_true rfl) rfl ?_
      intro p e s m args below meth c C hret hlocks hT
      refine a_aload_n C dL_giveWick_0 3 rfl ?_
      refine a_iconst C dL_giveWick_1 rfl ?_
      refine a_aload_n C dL_giveWick_2 0 rfl ?_
      refine a_iload_n C dL_giveWick_3 1 rfl ?_
      refine a_iload_n C dL_giveWick_4 2 rfl ?_
      refine a_callC C (k := 0) (As := [.int a, .int b]) (rest := [.int 0, .ref (x_b G + 183)]) (h G) (cwV 2 C.1.2.2.2.2 (gl_up gL_giveWick_X11_giveWick) rfl rfl rfl (by decide +kernel) ⟨by dsimp only [x_rm]; omega, by dsimp only [x_rm]; omega⟩) x_k0 (q := (RX11, TX11, 13)) rfl rfl rfl rfl (Nat.le_of_ble_eq_true rfl) dL_giveWick_5 ⟨Nat.le_of_ble_eq_true rfl, Nat.le_of_ble_eq_true rfl⟩ [] ⟨0, 10, 13, 21⟩ [⟨0, 10, 17, 13⟩, ⟨0, 10, 21, 15⟩] (hT.trans rfl) (fun z hz => absurd hz List.not_mem_nil) (by decide) (by decide) (List.mem_append_right _ (by decide +kernel)) (by decide +kernel) (fun w => ?_)
      refine a_astore C dL_giveWick_13 (Nat.le_of_ble_eq_true rfl) rfl ?_
      refine a_iconst C dL_giveWick_15 rfl ?_
      exact a_iretL C rfl hlocks hret dL_giveWick_16 (by decide) rfl
    · injection (show some "java/lang/IllegalArgumentException" = some E from hE) with hE
      subst hE
      refine x_startH (hh := [(0, 10, 13, 21), (0, 10, 17, 13), (0, 10, 21, 15)]) (by decide) rfl rfl (Nat.le_of_ble_eq_true rfl) rfl ?_
      intro p e s m args below meth c C hret hlocks hT
      refine a_aload_n C dL_giveWick_0 3 rfl ?_
      refine a_iconst C dL_giveWick_1 rfl ?_
      refine a_aload_n C dL_giveWick_2 0 rfl ?_
      refine a_iload_n C dL_giveWick_3 1 rfl ?_
      refine a_iload_n C dL_giveWick_4 2 rfl ?_
      refine a_callC C (k := 0) (As := [.int a, .int b]) (rest := [.int 0, .ref (x_b G + 183)]) (h G) (cwV 2 C.1.2.2.2.2 (gl_up gL_giveWick_X11_giveWick) rfl rfl rfl (by decide +kernel) ⟨by dsimp only [x_rm]; omega, by dsimp only [x_rm]; omega⟩) x_k0 (q := (RX11, TX11, 13)) rfl rfl rfl rfl (Nat.le_of_ble_eq_true rfl) dL_giveWick_5 ⟨Nat.le_of_ble_eq_true rfl, Nat.le_of_ble_eq_true rfl⟩ [⟨0, 10, 13, 21⟩] ⟨0, 10, 17, 13⟩ [⟨0, 10, 21, 15⟩] (hT.trans rfl) (fun z hz => by
        cases List.mem_singleton.mp hz
        exact ⟨by decide, "java/lang/IndexOutOfBoundsException", List.mem_append_right _ (by decide +kernel), by decide +kernel⟩) (by decide) (by decide) (List.mem_append_right _ (by decide +kernel)) (by decide +kernel) (fun w => ?_)
      refine a_astore C dL_giveWick_17 (Nat.le_of_ble_eq_true rfl) rfl ?_
      refine a_iconst C dL_giveWick_19 rfl ?_
      exact a_iretL C rfl hlocks hret dL_giveWick_20 (by decide) rfl
    · injection (show some "java/lang/IllegalStateException" = some E from hE) with hE
      subst hE
      refine x_startH (hh := [(0, 10, 13, 21), (0, 10, 17, 13), (0, 10, 21, 15)]) (by decide) rfl rfl (Nat.le_of_ble_eq_true rfl) rfl ?_
      intro p e s m args below meth c C hret hlocks hT
      refine a_aload_n C dL_giveWick_0 3 rfl ?_
      refine a_iconst C dL_giveWick_1 rfl ?_
      refine a_aload_n C dL_giveWick_2 0 rfl ?_
      refine a_iload_n C dL_giveWick_3 1 rfl ?_
      refine a_iload_n C dL_giveWick_4 2 rfl ?_
      refine a_callC C (k := 0) (As := [.int a, .int b]) (rest := [.int 0, .ref (x_b G + 183)]) (h G) (cwV 2 C.1.2.2.2.2 (gl_up gL_giveWick_X11_giveWick) rfl rfl rfl (by decide +kernel) ⟨by dsimp only [x_rm]; omega, by dsimp only [x_rm]; omega⟩) x_k0 (q := (RX11, TX11, 13)) rfl rfl rfl rfl (Nat.le_of_ble_eq_true rfl) dL_giveWick_5 ⟨Nat.le_of_ble_eq_true rfl, Nat.le_of_ble_eq_true rfl⟩ [⟨0, 10, 13, 21⟩, ⟨0, 10, 17, 13⟩] ⟨0, 10, 21, 15⟩ [] (hT.trans rfl) (fun z hz => by
        rcases List.mem_cons.mp hz with rfl | hz
        · exact ⟨by decide, "java/lang/IndexOutOfBoundsException", List.mem_append_right _ (by decide +kernel), by decide +kernel⟩
        · cases List.mem_singleton.mp hz
          exact ⟨by decide, "java/lang/IllegalArgumentException", List.mem_append_right _ (by decide +kernel), by decide +kernel⟩) (by decide) (by decide) (List.mem_append_right _ (by decide +kernel)) (by decide +kernel) (fun w => ?_)
      refine a_astore C dL_giveWick_21 (Nat.le_of_ble_eq_true rfl) rfl ?_
      refine a_iconst C dL_giveWick_23 rfl ?_
      exact a_iretL C rfl hlocks hret dL_giveWick_24 (by decide) rfl
    · exact absurd (show none = some E from hE) (fun z => by cases z)
theorem w_returnWick (l : Launch) (G : xG) (d d1 : xd) (a b : Int32) (k : Nat) (r : Int32) (h : y_C l yX11_returnWick wsX11_returnWick (fun G => [.ref (x_b G + 0), .int a, .int b]) ["java/lang/IndexOutOfBoundsException", "java/lang/IllegalArgumentException", "java/lang/IllegalStateException"] k (.int r) d d1) : x_ML G (if k = 0 then x_sl G r.toInt64 else G) l yL_returnWick (wsL_returnWick ++ ws_cl) 11 [.ref (x_b G + 0), .int a, .int b, .ref (x_b G + 183)] d (some (.int (nI k))) d1 := by
  obtain ⟨lv, hlv, ⟨rfl, h⟩ | ⟨E, h1, hE, h⟩⟩ := h
  · rw [if_pos rfl]
    refine x_startH (hh := [(0, 10, 13, 21), (0, 10, 17, 13), (0, 10, 21, 15)]) (by decide) rfl rfl (Nat.le_of_ble_eq_true rfl) rfl ?_
    intro p e s m args below meth c C hret hlocks hT
    refine a_aload_n C dL_returnWick_0 3 rfl ?_
    refine a_iconst C dL_returnWick_1 rfl ?_
    refine a_aload_n C dL_returnWick_2 0 rfl ?_
    refine a_iload_n C dL_returnWick_3 1 rfl ?_
    refine a_iload_n C dL_returnWick_4 2 rfl ?_
    refine a_callV C (k := 0) (As := [.int a, .int b]) (rest := [.int 0, .ref (x_b G + 183)]) (h G) (cwV 2 C.1.2.2.2.2 (gl_up gL_returnWick_X11_returnWick) rfl rfl rfl (by decide +kernel) ⟨by dsimp only [x_rm]; omega, by dsimp only [x_rm]; omega⟩) x_k0 (q := (RX11, TX11, 13)) rfl rfl rfl rfl (Nat.le_of_ble_eq_true rfl) dL_returnWick_5 ⟨Nat.le_of_ble_eq_true rfl, Nat.le_of_ble_eq_true rfl⟩ ?_
    refine a_i2l C dL_returnWick_8 ?_
    refine a_last C dL_returnWick_9 ?_
    refine a_goto (C.sl _) dL_returnWick_10 (tgt := 25) rfl ?_
    refine a_iconst (C.sl _) dL_returnWick_25 rfl ?_
    refine a_widen (Nat.zero_le 1) (Nat.zero_le 6) ?_
    exact a_iretL (C.sl _) rfl hlocks hret dL_returnWick_26 (by decide) rfl
  · obtain ⟨k, rfl⟩ : ∃ j, k = j + 1 := ⟨k - 1, by omega⟩
    rw [if_neg (by omega)]
    rcases k with _ | _ | _ | k
    · injection (show some "java/lang/IndexOutOfBoundsException" = some E from hE) with hE
      subst hE
      refine x_startH (hh := [(0, 10, 13, 21), (0, 10, 17, 13), (0, 10, 21, 15)]) (by decide) rfl rfl (Nat.le_of_ble_eq_true rfl) rfl ?_
      intro p e s m args below meth c C hret hlocks hT
      refine a_aload_n C dL_returnWick_0 3 rfl ?_
      refine a_iconst C dL_returnWick_1 rfl ?_
      refine a_aload_n C dL_returnWick_2 0 rfl ?_
      refine a_iload_n C dL_returnWick_3 1 rfl ?_
      refine a_iload_n C dL_returnWick_4 2 rfl ?_
      refine a_callC C (k := 0) (As := [.int a, .int b]) (rest := [.int 0, .ref (x_b G + 183)]) (h G) (cwV 2 C.1.2.2.2.2 (gl_up gL_returnWick_X11_returnWick) rfl rfl rfl (by decide +kernel) ⟨by dsimp only [x_rm]; omega, by dsimp only [x_rm]; omega⟩) x_k0 (q := (RX11, TX11, 13)) rfl rfl rfl rfl (Nat.le_of_ble_eq_true rfl) dL_returnWick_5 ⟨Nat.le_of_ble_eq_true rfl, Nat.le_of_ble_eq_true rfl⟩ [] ⟨0, 10, 13, 21⟩ [⟨0, 10, 17, 13⟩, ⟨0, 10, 21, 15⟩] (hT.trans rfl) (fun z hz => absurd hz List.not_mem_nil) (by decide) (by decide) (List.mem_append_right _ (by decide +kernel)) (by decide +kernel) (fun w => ?_)
      refine a_astore C dL_returnWick_13 (Nat.le_of_ble_eq_true rfl) rfl ?_
      refine a_iconst C dL_returnWick_15 rfl ?_
      exact a_iretL C rfl hlocks hret dL_returnWick_16 (by decide) rfl
    · injection (show some "java/lang/IllegalArgumentException" = some E from hE) with hE
      subst hE
      refine x_startH (hh := [(0, 10, 13, 21), (0, 10, 17, 13), (0, 10, 21, 15)]) (by decide) rfl rfl (Nat.le_of_ble_eq_true rfl) rfl ?_
      intro p e s m args below meth c C hret hlocks hT
      refine a_aload_n C dL_returnWick_0 3 rfl ?_
      refine a_iconst C dL_returnWick_1 rfl ?_
      refine a_aload_n C dL_returnWick_2 0 rfl ?_
      refine a_iload_n C dL_returnWick_3 1 rfl ?_
      refine a_iload_n C dL_returnWick_4 2 rfl ?_
      refine a_callC C (k := 0) (As := [.int a, .int b]) (rest := [.int 0, .ref (x_b G + 183)]) (h G) (cwV 2 C.1.2.2.2.2 (gl_up gL_returnWick_X11_returnWick) rfl rfl rfl (by decide +kernel) ⟨by dsimp only [x_rm]; omega, by dsimp only [x_rm]; omega⟩) x_k0 (q := (RX11, TX11, 13)) rfl rfl rfl rfl (Nat.le_of_ble_eq_true rfl) dL_returnWick_5 ⟨Nat.le_of_ble_eq_true rfl, Nat.le_of_ble_eq_true rfl⟩ [⟨0, 10, 13, 21⟩] ⟨0, 10, 17, 13⟩ [⟨0, 10, 21, 15⟩] (hT.trans rfl) (fun z hz => by
        cases List.mem_singleton.mp hz
        exact ⟨by decide, "java/lang/IndexOutOfBoundsException", List.mem_append_right _ (by decide +kernel), by decide +kernel⟩) (by decide) (by decide) (List.mem_append_right _ (by decide +kernel)) (by decide +kernel) (fun w => ?_)
      refine a_astore C dL_returnWick_17 (Nat.le_of_ble_eq_true rfl) rfl ?_
      refine a_iconst C dL_returnWick_19 rfl ?_
      exact a_iretL C rfl hlocks hret dL_returnWick_20 (by decide) rfl
    · injection (show some "java/lang/IllegalStateException" = some E from hE) with hE
      subst hE
      refine x_startH (hh := [(0, 10, 13, 21), (0, 10, 17, 13), (0, 10, 21, 15)]) (by decide) rfl rfl (Nat.le_of_ble_eq_true rfl) rfl ?_
      intro p e s m args below meth c C hret hlocks hT
      refine a_aload_n C dL_returnWick_0 3 rfl ?_
      refine a_iconst C dL_returnWick_1 rfl ?_
      refine a_aload_n C dL_returnWick_2 0 rfl ?_
      refine a_iload_n C dL_returnWick_3 1 rfl ?_
      refine a_iload_n C dL_returnWick_4 2 rfl ?_
      refine a_callC C (k := 0) (As := [.int a, .int b]) (rest := [.int 0, .ref (x_b G + 183)]) (h G) (cwV 2 C.1.2.2.2.2 (gl_up gL_returnWick_X11_returnWick) rfl rfl rfl (by decide +kernel) ⟨by dsimp only [x_rm]; omega, by dsimp only [x_rm]; omega⟩) x_k0 (q := (RX11, TX11, 13)) rfl rfl rfl rfl (Nat.le_of_ble_eq_true rfl) dL_returnWick_5 ⟨Nat.le_of_ble_eq_true rfl, Nat.le_of_ble_eq_true rfl⟩ [⟨0, 10, 13, 21⟩, ⟨0, 10, 17, 13⟩] ⟨0, 10, 21, 15⟩ [] (hT.trans rfl) (fun z hz => by
        rcases List.mem_cons.mp hz with rfl | hz
        · exact ⟨by decide, "java/lang/IndexOutOfBoundsException", List.mem_append_right _ (by decide +kernel), by decide +kernel⟩
        · cases List.mem_singleton.mp hz
          exact ⟨by decide, "java/lang/IllegalArgumentException", List.mem_append_right _ (by decide +kernel), by decide +kernel⟩) (by decide) (by decide) (List.mem_append_right _ (by decide +kernel)) (by decide +kernel) (fun w => ?_)
      refine a_astore C dL_returnWick_21 (Nat.le_of_ble_eq_true rfl) rfl ?_
      refine a_iconst C dL_returnWick_23 rfl ?_
      exact a_iretL C rfl hlocks hret dL_returnWick_24 (by decide) rfl
    · exact absurd (show none = some E from hE) (fun z => by cases z)
theorem w_payDividend (l : Launch) (G : xG) (d d1 : xd) (k : Nat) (r : Int32) (h : y_C l yX11_payDividend wsX11_payDividend (fun G => [.ref (x_b G + 0)]) ["java/lang/IllegalStateException"] k (.int r) d d1) : x_ML G (if k = 0 then x_sl G r.toInt64 else G) l yL_payDividend (wsL_payDividend ++ ws_cl) 11 [.ref (x_b G + 0), .ref (x_b G + 183)] d (some (.int (nI k))) d1 := by
  obtain ⟨lv, hlv, ⟨rfl, h⟩ | ⟨E, h1, hE, h⟩⟩ := h
  · rw [if_pos rfl]
    refine x_startH (hh := [(0, 8, 11, 15)]) (by decide) rfl rfl (Nat.le_of_ble_eq_true rfl) rfl ?_
    intro p e s m args below meth c C hret hlocks hT
    refine a_aload_n C dL_payDividend_0 1 rfl ?_
    refine a_iconst C dL_payDividend_1 rfl ?_
    refine a_aload_n C dL_payDividend_2 0 rfl ?_
    refine a_callV C (k := 0) (As := []) (rest := [.int 0, .ref (x_b G + 183)]) (h G) (cwV 0 C.1.2.2.2.2 (gl_up gL_payDividend_X11_payDividend) rfl rfl rfl (by decide +kernel) ⟨by dsimp only [x_rm]; omega, by dsimp only [x_rm]; omega⟩) x_k0 (q := (RX11, TX11, 13)) rfl rfl rfl rfl (Nat.le_of_ble_eq_true rfl) dL_payDividend_3 ⟨Nat.le_of_ble_eq_true rfl, Nat.le_of_ble_eq_true rfl⟩ ?_
    refine a_i2l C dL_payDividend_6 ?_
    refine a_last C dL_payDividend_7 ?_
    refine a_goto (C.sl _) dL_payDividend_8 (tgt := 14) rfl ?_
    refine a_iconst (C.sl _) dL_payDividend_14 rfl ?_
    refine a_widen (Nat.zero_le 1) (Nat.zero_le 6) ?_
    exact a_iretL (C.sl _) rfl hlocks hret dL_payDividend_15 (by decide) rfl
  · obtain ⟨k, rfl⟩ : ∃ j, k = j + 1 := ⟨k - 1, by omega⟩
    rw [if_neg (by omega)]
    rcases k with _ | k
    · injection (show some "java/lang/IllegalStateException" = some E from hE) with hE
      subst hE
      refine x_startH (hh := [(0, 8, 11, 15)]) (by decide) rfl rfl (Nat.le_of_ble_eq_true rfl) rfl ?_
      intro p e s m args below meth c C hret hlocks hT
      refine a_aload_n C dL_payDividend_0 1 rfl ?_
      refine a_iconst C dL_payDividend_1 rfl ?_
      refine a_aload_n C dL_payDividend_2 0 rfl ?_
      refine a_callC C (k := 0) (As := []) (rest := [.int 0, .ref (x_b G + 183)]) (h G) (cwV 0 C.1.2.2.2.2 (gl_up gL_payDividend_X11_payDividend) rfl rfl rfl (by decide +kernel) ⟨by dsimp only [x_rm]; omega, by dsimp only [x_rm]; omega⟩) x_k0 (q := (RX11, TX11, 13)) rfl rfl rfl rfl (Nat.le_of_ble_eq_true rfl) dL_payDividend_3 ⟨Nat.le_of_ble_eq_true rfl, Nat.le_of_ble_eq_true rfl⟩ [] ⟨0, 8, 11, 15⟩ [] (hT.trans rfl) (fun z hz => absurd hz List.not_mem_nil) (by decide) (by decide) (List.mem_append_right _ (by decide +kernel)) (by decide +kernel) (fun w => ?_)
      refine a_astore_n C dL_payDividend_11 (Nat.le_of_ble_eq_true rfl) rfl ?_
      refine a_iconst C dL_payDividend_12 rfl ?_
      exact a_iretL C rfl hlocks hret dL_payDividend_13 (by decide) rfl
    · exact absurd (show none = some E from hE) (fun z => by cases z)
theorem w_portionOf (l : Launch) (G : xG) (d d1 : xd) (a b : Int32) (k : Nat) (r : Int32) (h : y_C l yX11_portionOf wsX11_portionOf (fun G => [.ref (x_b G + 0), .int a, .int b]) ["java/lang/IndexOutOfBoundsException", "java/lang/IllegalArgumentException"] k (.int r) d d1) : x_ML G (if k = 0 then x_sl G r.toInt64 else G) l yL_portionOf (wsL_portionOf ++ ws_cl) 11 [.ref (x_b G + 0), .int a, .int b, .ref (x_b G + 183)] d (some (.int (nI k))) d1 := by
  obtain ⟨lv, hlv, ⟨rfl, h⟩ | ⟨E, h1, hE, h⟩⟩ := h
  · rw [if_pos rfl]
    refine x_startH (hh := [(0, 10, 13, 21), (0, 10, 17, 13)]) (by decide) rfl rfl (Nat.le_of_ble_eq_true rfl) rfl ?_
    intro p e s m args below meth c C hret hlocks hT
    refine a_aload_n C dL_portionOf_0 3 rfl ?_
    refine a_iconst C dL_portionOf_1 rfl ?_
    refine a_aload_n C dL_portionOf_2 0 rfl ?_
    refine a_iload_n C dL_portionOf_3 1 rfl ?_
    refine a_iload_n C dL_portionOf_4 2 rfl ?_
    refine a_callV C (k := 0) (As := [.int a, .int b]) (rest := [.int 0, .ref (x_b G + 183)]) (h G) (cwV 2 C.1.2.2.2.2 (gl_up gL_portionOf_X11_portionOf) rfl rfl rfl (by decide +kernel) ⟨by dsimp only [x_rm]; omega, by dsimp only [x_rm]; omega⟩) x_k0 (q := (RX11, TX11, 13)) rfl rfl rfl rfl (Nat.le_of_ble_eq_true rfl) dL_portionOf_5 ⟨Nat.le_of_ble_eq_true rfl, Nat.le_of_ble_eq_true rfl⟩ ?_
    refine a_i2l C dL_portionOf_8 ?_
    refine a_last C dL_portionOf_9 ?_
    refine a_goto (C.sl _) dL_portionOf_10 (tgt := 21) rfl ?_
    refine a_iconst (C.sl _) dL_portionOf_21 rfl ?_
    refine a_widen (Nat.zero_le 1) (Nat.zero_le 6) ?_
    exact a_iretL (C.sl _) rfl hlocks hret dL_portionOf_22 (by decide) rfl
  · obtain ⟨k, rfl⟩ : ∃ j, k = j + 1 := ⟨k - 1, by omega⟩
    rw [if_neg (by omega)]
    rcases k with _ | _ | k
    · injection (show some "java/lang/IndexOutOfBoundsException" = some E from hE) with hE
      subst hE
      refine x_startH (hh := [(0, 10, 13, 21), (0, 10, 17, 13)]) (by decide) rfl rfl (Nat.le_of_ble_eq_true rfl) rfl ?_
      intro p e s m args below meth c C hret hlocks hT
      refine a_aload_n C dL_portionOf_0 3 rfl ?_
      refine a_iconst C dL_portionOf_1 rfl ?_
      refine a_aload_n C dL_portionOf_2 0 rfl ?_
      refine a_iload_n C dL_portionOf_3 1 rfl ?_
      refine a_iload_n C dL_portionOf_4 2 rfl ?_
      refine a_callC C (k := 0) (As := [.int a, .int b]) (rest := [.int 0, .ref (x_b G + 183)]) (h G) (cwV 2 C.1.2.2.2.2 (gl_up gL_portionOf_X11_portionOf) rfl rfl rfl (by decide +kernel) ⟨by dsimp only [x_rm]; omega, by dsimp only [x_rm]; omega⟩) x_k0 (q := (RX11, TX11, 13)) rfl rfl rfl rfl (Nat.le_of_ble_eq_true rfl) dL_portionOf_5 ⟨Nat.le_of_ble_eq_true rfl, Nat.le_of_ble_eq_true rfl⟩ [] ⟨0, 10, 13, 21⟩ [⟨0, 10, 17, 13⟩] (hT.trans rfl) (fun z hz => absurd hz List.not_mem_nil) (by decide) (by decide) (List.mem_append_right _ (by decide +kernel)) (by decide +kernel) (fun w => ?_)
      refine a_astore C dL_portionOf_13 (Nat.le_of_ble_eq_true rfl) rfl ?_
      refine a_iconst C dL_portionOf_15 rfl ?_
      exact a_iretL C rfl hlocks hret dL_portionOf_16 (by decide) rfl
    · injection (show some "java/lang/IllegalArgumentException" = some E from hE) with hE
      subst hE
      refine x_startH (hh := [(0, 10, 13, 21), (0, 10, 17, 13)]) (by decide) rfl rfl (Nat.le_of_ble_eq_true rfl) rfl ?_
      intro p e s m args below meth c C hret hlocks hT
      refine a_aload_n C dL_portionOf_0 3 rfl ?_
      refine a_iconst C dL_portionOf_1 rfl ?_
      refine a_aload_n C dL_portionOf_2 0 rfl ?_
      refine a_iload_n C dL_portionOf_3 1 rfl ?_
      refine a_iload_n C dL_portionOf_4 2 rfl ?_
      refine a_callC C (k := 0) (As := [.int a, .int b]) (rest := [.int 0, .ref (x_b G + 183)]) (h G) (cwV 2 C.1.2.2.2.2 (gl_up gL_portionOf_X11_portionOf) rfl rfl rfl (by decide +kernel) ⟨by dsimp only [x_rm]; omega, by dsimp only [x_rm]; omega⟩) x_k0 (q := (RX11, TX11, 13)) rfl rfl rfl rfl (Nat.le_of_ble_eq_true rfl) dL_portionOf_5 ⟨Nat.le_of_ble_eq_true rfl, Nat.le_of_ble_eq_true rfl⟩ [⟨0, 10, 13, 21⟩] ⟨0, 10, 17, 13⟩ [] (hT.trans rfl) (fun z hz => by
        cases List.mem_singleton.mp hz
        exact ⟨by decide, "java/lang/IndexOutOfBoundsException", List.mem_append_right _ (by decide +kernel), by decide +kernel⟩) (by decide) (by decide) (List.mem_append_right _ (by decide +kernel)) (by decide +kernel) (fun w => ?_)
      refine a_astore C dL_portionOf_17 (Nat.le_of_ble_eq_true rfl) rfl ?_
      refine a_iconst C dL_portionOf_19 rfl ?_
      exact a_iretL C rfl hlocks hret dL_portionOf_20 (by decide) rfl
    · exact absurd (show none = some E from hE) (fun z => by cases z)
theorem w_portionByRounds (l : Launch) (G : xG) (d d1 : xd) (a b : Int32) (k : Nat) (r : Int32) (h : y_C l yX11_portionByRounds wsX11_portionByRounds (fun G => [.ref (x_b G + 0), .int a, .int b]) ["java/lang/IndexOutOfBoundsException", "java/lang/IllegalArgumentException"] k (.int r) d d1) : x_ML G (if k = 0 then x_sl G r.toInt64 else G) l yL_portionByRounds (wsL_portionByRounds ++ ws_cl) 11 [.ref (x_b G + 0), .int a, .int b, .ref (x_b G + 183)] d (some (.int (nI k))) d1 := by
  obtain ⟨lv, hlv, ⟨rfl, h⟩ | ⟨E, h1, hE, h⟩⟩ := h
  · rw [if_pos rfl]
    refine x_startH (hh := [(0, 10, 13, 21), (0, 10, 17, 13)]) (by decide) rfl rfl (Nat.le_of_ble_eq_true rfl) rfl ?_
    intro p e s m args below meth c C hret hlocks hT
    refine a_aload_n C dL_portionByRounds_0 3 rfl ?_
    refine a_iconst C dL_portionByRounds_1 rfl ?_
    refine a_aload_n C dL_portionByRounds_2 0 rfl ?_
    refine a_iload_n C dL_portionByRounds_3 1 rfl ?_
    refine a_iload_n C dL_portionByRounds_4 2 rfl ?_
    refine a_callV C (k := 0) (As := [.int a, .int b]) (rest := [.int 0, .ref (x_b G + 183)]) (h G) (cwV 2 C.1.2.2.2.2 (gl_up gL_portionByRounds_X11_portionByRounds) rfl rfl rfl (by decide +kernel) ⟨by dsimp only [x_rm]; omega, by dsimp only [x_rm]; omega⟩) x_k0 (q := (RX11, TX11, 13)) rfl rfl rfl rfl (Nat.le_of_ble_eq_true rfl) dL_portionByRounds_5 ⟨Nat.le_of_ble_eq_true rfl, Nat.le_of_ble_eq_true rfl⟩ ?_
    refine a_i2l C dL_portionByRounds_8 ?_
    refine a_last C dL_portionByRounds_9 ?_
    refine a_goto (C.sl _) dL_portionByRounds_10 (tgt := 21) rfl ?_
    refine a_iconst (C.sl _) dL_portionByRounds_21 rfl ?_
    refine a_widen (Nat.zero_le 1) (Nat.zero_le 6) ?_
    exact a_iretL (C.sl _) rfl hlocks hret dL_portionByRounds_22 (by decide) rfl
  · obtain ⟨k, rfl⟩ : ∃ j, k = j + 1 := ⟨k - 1, by omega⟩
    rw [if_neg (by omega)]
    rcases k with _ | _ | k
    · injection (show some "java/lang/IndexOutOfBoundsException" = some E from hE) with hE
      subst hE
      refine x_startH (hh := [(0, 10, 13, 21), (0, 10, 17, 13)]) (by decide) rfl rfl (Nat.le_of_ble_eq_true rfl) rfl ?_
      intro p e s m args below meth c C hret hlocks hT
      refine a_aload_n C dL_portionByRounds_0 3 rfl ?_
      refine a_iconst C dL_portionByRounds_1 rfl ?_
      refine a_aload_n C dL_portionByRounds_2 0 rfl ?_
      refine a_iload_n C dL_portionByRounds_3 1 rfl ?_
      refine a_iload_n C dL_portionByRounds_4 2 rfl ?_
      refine a_callC C (k := 0) (As := [.int a, .int b]) (rest := [.int 0, .ref (x_b G + 183)]) (h G) (cwV 2 C.1.2.2.2.2 (gl_up gL_portionByRounds_X11_portionByRounds) rfl rfl rfl (by decide +kernel) ⟨by dsimp only [x_rm]; omega, by dsimp only [x_rm]; omega⟩) x_k0 (q := (RX11, TX11, 13)) rfl rfl rfl rfl (Nat.le_of_ble_eq_true rfl) dL_portionByRounds_5 ⟨Nat.le_of_ble_eq_true rfl, Nat.le_of_ble_eq_true rfl⟩ [] ⟨0, 10, 13, 21⟩ [⟨0, 10, 17, 13⟩] (hT.trans rfl) (fun z hz => absurd hz List.not_mem_nil) (by decide) (by decide) (List.mem_append_right _ (by decide +kernel)) (by decide +kernel) (fun w => ?_)
      refine a_astore C dL_portionByRounds_13 (Nat.le_of_ble_eq_true rfl) rfl ?_
      refine a_iconst C dL_portionByRounds_15 rfl ?_
      exact a_iretL C rfl hlocks hret dL_portionByRounds_16 (by decide) rfl
    · injection (show some "java/lang/IllegalArgumentException" = some E from hE) with hE
      subst hE
      refine x_startH (hh := [(0, 10, 13, 21), (0, 10, 17, 13)]) (by decide) rfl rfl (Nat.le_of_ble_eq_true rfl) rfl ?_
      intro p e s m args below meth c C hret hlocks hT
      refine a_aload_n C dL_portionByRounds_0 3 rfl ?_
      refine a_iconst C dL_portionByRounds_1 rfl ?_
      refine a_aload_n C dL_portionByRounds_2 0 rfl ?_
      refine a_iload_n C dL_portionByRounds_3 1 rfl ?_
      refine a_iload_n C dL_portionByRounds_4 2 rfl ?_
      refine a_callC C (k := 0) (As := [.int a, .int b]) (rest := [.int 0, .ref (x_b G + 183)]) (h G) (cwV 2 C.1.2.2.2.2 (gl_up gL_portionByRounds_X11_portionByRounds) rfl rfl rfl (by decide +kernel) ⟨by dsimp only [x_rm]; omega, by dsimp only [x_rm]; omega⟩) x_k0 (q := (RX11, TX11, 13)) rfl rfl rfl rfl (Nat.le_of_ble_eq_true rfl) dL_portionByRounds_5 ⟨Nat.le_of_ble_eq_true rfl, Nat.le_of_ble_eq_true rfl⟩ [⟨0, 10, 13, 21⟩] ⟨0, 10, 17, 13⟩ [] (hT.trans rfl) (fun z hz => by
        cases List.mem_singleton.mp hz
        exact ⟨by decide, "java/lang/IndexOutOfBoundsException", List.mem_append_right _ (by decide +kernel), by decide +kernel⟩) (by decide) (by decide) (List.mem_append_right _ (by decide +kernel)) (by decide +kernel) (fun w => ?_)
      refine a_astore C dL_portionByRounds_17 (Nat.le_of_ble_eq_true rfl) rfl ?_
      refine a_iconst C dL_portionByRounds_19 rfl ?_
      exact a_iretL C rfl hlocks hret dL_portionByRounds_20 (by decide) rfl
    · exact absurd (show none = some E from hE) (fun z => by cases z)
theorem w_addMoth (l : Launch) (G : xG) (d d1 : xd) (a : Int32) (k : Nat) (r : Int32) (h : y_C l yX11_addMoth wsX11_addMoth (fun G => [.ref (x_b G + 0), .int a]) ["java/lang/IndexOutOfBoundsException", "java/lang/IllegalStateException"] k (.int r) d d1) : x_ML G (if k = 0 then x_sl G r.toInt64 else G) l yL_addMoth (wsL_addMoth ++ ws_cl) 11 [.ref (x_b G + 0), .int a, .ref (x_b G + 183)] d (some (.int (nI k))) d1 := by
  obtain ⟨lv, hlv, ⟨rfl, h⟩ | ⟨E, h1, hE, h⟩⟩ := h
  · rw [if_pos rfl]
    refine x_startH (hh := [(0, 9, 12, 21), (0, 9, 15, 15)]) (by decide) rfl rfl (Nat.le_of_ble_eq_true rfl) rfl ?_
    intro p e s m args below meth c C hret hlocks hT
    refine a_aload_n C dL_addMoth_0 2 rfl ?_
    refine a_iconst C dL_addMoth_1 rfl ?_
    refine a_aload_n C dL_addMoth_2 0 rfl ?_
    refine a_iload_n C dL_addMoth_3 1 rfl ?_
    refine a_callV C (k := 0) (As := [.int a]) (rest := [.int 0, .ref (x_b G + 183)]) (h G) (cwV 1 C.1.2.2.2.2 (gl_up gL_addMoth_X11_addMoth) rfl rfl rfl (by decide +kernel) ⟨by dsimp only [x_rm]; omega, by dsimp only [x_rm]; omega⟩) x_k0 (q := (RX11, TX11, 13)) rfl rfl rfl rfl (Nat.le_of_ble_eq_true rfl) dL_addMoth_4 ⟨Nat.le_of_ble_eq_true rfl, Nat.le_of_ble_eq_true rfl⟩ ?_
    refine a_i2l C dL_addMoth_7 ?_
    refine a_last C dL_addMoth_8 ?_
    refine a_goto (C.sl _) dL_addMoth_9 (tgt := 18) rfl ?_
    refine a_iconst (C.sl _) dL_addMoth_18 rfl ?_
    refine a_widen (Nat.zero_le 1) (Nat.zero_le 6) ?_
    exact a_iretL (C.sl _) rfl hlocks hret dL_addMoth_19 (by decide) rfl
  · obtain ⟨k, rfl⟩ : ∃ j, k = j + 1 := ⟨k - 1, by omega⟩
    rw [if_neg (by omega)]
    rcases k with _ | _ | k
    · injection (show some "java/lang/IndexOutOfBoundsException" = some E from hE) with hE
      subst hE
      refine x_startH (hh := [(0, 9, 12, 21), (0, 9, 15, 15)]) (by decide) rfl rfl (Nat.le_of_ble_eq_true rfl) rfl ?_
      intro p e s m args below meth c C hret hlocks hT
      refine a_aload_n C dL_addMoth_0 2 rfl ?_
      refine a_iconst C dL_addMoth_1 rfl ?_
      refine a_aload_n C dL_addMoth_2 0 rfl ?_
      refine a_iload_n C dL_addMoth_3 1 rfl ?_
      refine a_callC C (k := 0) (As := [.int a]) (rest := [.int 0, .ref (x_b G + 183)]) (h G) (cwV 1 C.1.2.2.2.2 (gl_up gL_addMoth_X11_addMoth) rfl rfl rfl (by decide +kernel) ⟨by dsimp only [x_rm]; omega, by dsimp only [x_rm]; omega⟩) x_k0 (q := (RX11, TX11, 13)) rfl rfl rfl rfl (Nat.le_of_ble_eq_true rfl) dL_addMoth_4 ⟨Nat.le_of_ble_eq_true rfl, Nat.le_of_ble_eq_true rfl⟩ [] ⟨0, 9, 12, 21⟩ [⟨0, 9, 15, 15⟩] (hT.trans rfl) (fun z hz => absurd hz List.not_mem_nil) (by decide) (by decide) (List.mem_append_right _ (by decide +kernel)) (by decide +kernel) (fun w => ?_)
      refine a_astore_n C dL_addMoth_12 (Nat.le_of_ble_eq_true rfl) rfl ?_
      refine a_iconst C dL_addMoth_13 rfl ?_
      exact a_iretL C rfl hlocks hret dL_addMoth_14 (by decide) rfl
    · injection (show some "java/lang/IllegalStateException" = some E from hE) with hE
      subst hE
      refine x_startH (hh := [(0, 9, 12, 21), (0, 9, 15, 15)]) (by decide) rfl rfl (Nat.le_of_ble_eq_true rfl) rfl ?_
      intro p e s m args below meth c C hret hlocks hT
      refine a_aload_n C dL_addMoth_0 2 rfl ?_
      refine a_iconst C dL_addMoth_1 rfl ?_
      refine a_aload_n C dL_addMoth_2 0 rfl ?_
      refine a_iload_n C dL_addMoth_3 1 rfl ?_
      refine a_callC C (k := 0) (As := [.int a]) (rest := [.int 0, .ref (x_b G + 183)]) (h G) (cwV 1 C.1.2.2.2.2 (gl_up gL_addMoth_X11_addMoth) rfl rfl rfl (by decide +kernel) ⟨by dsimp only [x_rm]; omega, by dsimp only [x_rm]; omega⟩) x_k0 (q := (RX11, TX11, 13)) rfl rfl rfl rfl (Nat.le_of_ble_eq_true rfl) dL_addMoth_4 ⟨Nat.le_of_ble_eq_true rfl, Nat.le_of_ble_eq_true rfl⟩ [⟨0, 9, 12, 21⟩] ⟨0, 9, 15, 15⟩ [] (hT.trans rfl) (fun z hz => by
        cases List.mem_singleton.mp hz
        exact ⟨by decide, "java/lang/IndexOutOfBoundsException", List.mem_append_right _ (by decide +kernel), by decide +kernel⟩) (by decide) (by decide) (List.mem_append_right _ (by decide +kernel)) (by decide +kernel) (fun w => ?_)
      refine a_astore_n C dL_addMoth_15 (Nat.le_of_ble_eq_true rfl) rfl ?_
      refine a_iconst C dL_addMoth_16 rfl ?_
      exact a_iretL C rfl hlocks hret dL_addMoth_17 (by decide) rfl
    · exact absurd (show none = some E from hE) (fun z => by cases z)
theorem w_moveMoth (l : Launch) (G : xG) (d d1 : xd) (a b : Int32) (k : Nat) (r : Int32) (h : y_C l yX11_moveMoth wsX11_moveMoth (fun G => [.ref (x_b G + 0), .int a, .int b]) ["java/lang/IndexOutOfBoundsException"] k (.int r) d d1) : x_ML G (if k = 0 then x_sl G r.toInt64 else G) l yL_moveMoth (wsL_moveMoth ++ ws_cl) 11 [.ref (x_b G + 0), .int a, .int b, .ref (x_b G + 183)] d (some (.int (nI k))) d1 := by
  obtain ⟨lv, hlv, ⟨rfl, h⟩ | ⟨E, h1, hE, h⟩⟩ := h
  · rw [if_pos rfl]
    refine x_startH (hh := [(0, 10, 13, 21)]) (by decide) rfl rfl (Nat.le_of_ble_eq_true rfl) rfl ?_
    intro p e s m args below meth c C hret hlocks hT
    refine a_aload_n C dL_moveMoth_0 3 rfl ?_
    refine a_iconst C dL_moveMoth_1 rfl ?_
    refine a_aload_n C dL_moveMoth_2 0 rfl ?_
    refine a_iload_n C dL_moveMoth_3 1 rfl ?_
    refine a_iload_n C dL_moveMoth_4 2 rfl ?_
    refine a_callV C (k := 0) (As := [.int a, .int b]) (rest := [.int 0, .ref (x_b G + 183)]) (h G) (cwV 2 C.1.2.2.2.2 (gl_up gL_moveMoth_X11_moveMoth) rfl rfl rfl (by decide +kernel) ⟨by dsimp only [x_rm]; omega, by dsimp only [x_rm]; omega⟩) x_k0 (q := (RX11, TX11, 13)) rfl rfl rfl rfl (Nat.le_of_ble_eq_true rfl) dL_moveMoth_5 ⟨Nat.le_of_ble_eq_true rfl, Nat.le_of_ble_eq_true rfl⟩ ?_
    refine a_i2l C dL_moveMoth_8 ?_
    refine a_last C dL_moveMoth_9 ?_
    refine a_goto (C.sl _) dL_moveMoth_10 (tgt := 17) rfl ?_
    refine a_iconst (C.sl _) dL_moveMoth_17 rfl ?_
    refine a_widen (Nat.zero_le 1) (Nat.zero_le 6) ?_
    exact a_iretL (C.sl _) rfl hlocks hret dL_moveMoth_18 (by decide) rfl
  · obtain ⟨k, rfl⟩ : ∃ j, k = j + 1 := ⟨k - 1, by omega⟩
    rw [if_neg (by omega)]
    rcases k with _ | k
    · injection (show some "java/lang/IndexOutOfBoundsException" = some E from hE) with hE
      subst hE
      refine x_startH (hh := [(0, 10, 13, 21)]) (by decide) rfl rfl (Nat.le_of_ble_eq_true rfl) rfl ?_
      intro p e s m args below meth c C hret hlocks hT
      refine a_aload_n C dL_moveMoth_0 3 rfl ?_
      refine a_iconst C dL_moveMoth_1 rfl ?_
      refine a_aload_n C dL_moveMoth_2 0 rfl ?_
      refine a_iload_n C dL_moveMoth_3 1 rfl ?_
      refine a_iload_n C dL_moveMoth_4 2 rfl ?_
      refine a_callC C (k := 0) (As := [.int a, .int b]) (rest := [.int 0, .ref (x_b G + 183)]) (h G) (cwV 2 C.1.2.2.2.2 (gl_up gL_moveMoth_X11_moveMoth) rfl rfl rfl (by decide +kernel) ⟨by dsimp only [x_rm]; omega, by dsimp only [x_rm]; omega⟩) x_k0 (q := (RX11, TX11, 13)) rfl rfl rfl rfl (Nat.le_of_ble_eq_true rfl) dL_moveMoth_5 ⟨Nat.le_of_ble_eq_true rfl, Nat.le_of_ble_eq_true rfl⟩ [] ⟨0, 10, 13, 21⟩ [] (hT.trans rfl) (fun z hz => absurd hz List.not_mem_nil) (by decide) (by decide) (List.mem_append_right _ (by decide +kernel)) (by decide +kernel) (fun w => ?_)
      refine a_astore C dL_moveMoth_13 (Nat.le_of_ble_eq_true rfl) rfl ?_
      refine a_iconst C dL_moveMoth_15 rfl ?_
      exact a_iretL C rfl hlocks hret dL_moveMoth_16 (by decide) rfl
    · exact absurd (show none = some E from hE) (fun z => by cases z)
theorem w_lampOfMoth (l : Launch) (G : xG) (d d1 : xd) (a : Int32) (k : Nat) (r : Int32) (h : y_C l yX11_lampOfMoth wsX11_lampOfMoth (fun G => [.ref (x_b G + 0), .int a]) ["java/lang/IndexOutOfBoundsException"] k (.int r) d d1) : x_ML G (if k = 0 then x_sl G r.toInt64 else G) l yL_lampOfMoth (wsL_lampOfMoth ++ ws_cl) 11 [.ref (x_b G + 0), .int a, .ref (x_b G + 183)] d (some (.int (nI k))) d1 := by
  obtain ⟨lv, hlv, ⟨rfl, h⟩ | ⟨E, h1, hE, h⟩⟩ := h
  · rw [if_pos rfl]
    refine x_startH (hh := [(0, 9, 12, 21)]) (by decide) rfl rfl (Nat.le_of_ble_eq_true rfl) rfl ?_
    intro p e s m args below meth c C hret hlocks hT
    refine a_aload_n C dL_lampOfMoth_0 2 rfl ?_
    refine a_iconst C dL_lampOfMoth_1 rfl ?_
    refine a_aload_n C dL_lampOfMoth_2 0 rfl ?_
    refine a_iload_n C dL_lampOfMoth_3 1 rfl ?_
    refine a_callV C (k := 0) (As := [.int a]) (rest := [.int 0, .ref (x_b G + 183)]) (h G) (cwV 1 C.1.2.2.2.2 (gl_up gL_lampOfMoth_X11_lampOfMoth) rfl rfl rfl (by decide +kernel) ⟨by dsimp only [x_rm]; omega, by dsimp only [x_rm]; omega⟩) x_k0 (q := (RX11, TX11, 13)) rfl rfl rfl rfl (Nat.le_of_ble_eq_true rfl) dL_lampOfMoth_4 ⟨Nat.le_of_ble_eq_true rfl, Nat.le_of_ble_eq_true rfl⟩ ?_
    refine a_i2l C dL_lampOfMoth_7 ?_
    refine a_last C dL_lampOfMoth_8 ?_
    refine a_goto (C.sl _) dL_lampOfMoth_9 (tgt := 15) rfl ?_
    refine a_iconst (C.sl _) dL_lampOfMoth_15 rfl ?_
    refine a_widen (Nat.zero_le 1) (Nat.zero_le 6) ?_
    exact a_iretL (C.sl _) rfl hlocks hret dL_lampOfMoth_16 (by decide) rfl
  · obtain ⟨k, rfl⟩ : ∃ j, k = j + 1 := ⟨k - 1, by omega⟩
    rw [if_neg (by omega)]
    rcases k with _ | k
    · injection (show some "java/lang/IndexOutOfBoundsException" = some E from hE) with hE
      subst hE
      refine x_startH (hh := [(0, 9, 12, 21)]) (by decide) rfl rfl (Nat.le_of_ble_eq_true rfl) rfl ?_
      intro p e s m args below meth c C hret hlocks hT
      refine a_aload_n C dL_lampOfMoth_0 2 rfl ?_
      refine a_iconst C dL_lampOfMoth_1 rfl ?_
      refine a_aload_n C dL_lampOfMoth_2 0 rfl ?_
      refine a_iload_n C dL_lampOfMoth_3 1 rfl ?_
      refine a_callC C (k := 0) (As := [.int a]) (rest := [.int 0, .ref (x_b G + 183)]) (h G) (cwV 1 C.1.2.2.2.2 (gl_up gL_lampOfMoth_X11_lampOfMoth) rfl rfl rfl (by decide +kernel) ⟨by dsimp only [x_rm]; omega, by dsimp only [x_rm]; omega⟩) x_k0 (q := (RX11, TX11, 13)) rfl rfl rfl rfl (Nat.le_of_ble_eq_true rfl) dL_lampOfMoth_4 ⟨Nat.le_of_ble_eq_true rfl, Nat.le_of_ble_eq_true rfl⟩ [] ⟨0, 9, 12, 21⟩ [] (hT.trans rfl) (fun z hz => absurd hz List.not_mem_nil) (by decide) (by decide) (List.mem_append_right _ (by decide +kernel)) (by decide +kernel) (fun w => ?_)
      refine a_astore_n C dL_lampOfMoth_12 (Nat.le_of_ble_eq_true rfl) rfl ?_
      refine a_iconst C dL_lampOfMoth_13 rfl ?_
      exact a_iretL C rfl hlocks hret dL_lampOfMoth_14 (by decide) rfl
    · exact absurd (show none = some E from hE) (fun z => by cases z)
theorem w_strikesOf (l : Launch) (G : xG) (d d1 : xd) (a : Int32) (k : Nat) (r : Int32) (h : y_C l yX11_strikesOf wsX11_strikesOf (fun G => [.ref (x_b G + 0), .int a]) ["java/lang/IndexOutOfBoundsException"] k (.int r) d d1) : x_ML G (if k = 0 then x_sl G r.toInt64 else G) l yL_strikesOf (wsL_strikesOf ++ ws_cl) 11 [.ref (x_b G + 0), .int a, .ref (x_b G + 183)] d (some (.int (nI k))) d1 := by
  obtain ⟨lv, hlv, ⟨rfl, h⟩ | ⟨E, h1, hE, h⟩⟩ := h
  · rw [if_pos rfl]
    refine x_startH (hh := [(0, 9, 12, 21)]) (by decide) rfl rfl (Nat.le_of_ble_eq_true rfl) rfl ?_
    intro p e s m args below meth c C hret hlocks hT
    refine a_aload_n C dL_strikesOf_0 2 rfl ?_
    refine a_iconst C dL_strikesOf_1 rfl ?_
    refine a_aload_n C dL_strikesOf_2 0 rfl ?_
    refine a_iload_n C dL_strikesOf_3 1 rfl ?_
    refine a_callV C (k := 0) (As := [.int a]) (rest := [.int 0, .ref (x_b G + 183)]) (h G) (cwV 1 C.1.2.2.2.2 (gl_up gL_strikesOf_X11_strikesOf) rfl rfl rfl (by decide +kernel) ⟨by dsimp only [x_rm]; omega, by dsimp only [x_rm]; omega⟩) x_k0 (q := (RX11, TX11, 13)) rfl rfl rfl rfl (Nat.le_of_ble_eq_true rfl) dL_strikesOf_4 ⟨Nat.le_of_ble_eq_true rfl, Nat.le_of_ble_eq_true rfl⟩ ?_
    refine a_i2l C dL_strikesOf_7 ?_
    refine a_last C dL_strikesOf_8 ?_
    refine a_goto (C.sl _) dL_strikesOf_9 (tgt := 15) rfl ?_
    refine a_iconst (C.sl _) dL_strikesOf_15 rfl ?_
    refine a_widen (Nat.zero_le 1) (Nat.zero_le 6) ?_
    exact a_iretL (C.sl _) rfl hlocks hret dL_strikesOf_16 (by decide) rfl
  · obtain ⟨k, rfl⟩ : ∃ j, k = j + 1 := ⟨k - 1, by omega⟩
    rw [if_neg (by omega)]
    rcases k with _ | k
    · injection (show some "java/lang/IndexOutOfBoundsException" = some E from hE) with hE
      subst hE
      refine x_startH (hh := [(0, 9, 12, 21)]) (by decide) rfl rfl (Nat.le_of_ble_eq_true rfl) rfl ?_
      intro p e s m args below meth c C hret hlocks hT
      refine a_aload_n C dL_strikesOf_0 2 rfl ?_
      refine a_iconst C dL_strikesOf_1 rfl ?_
      refine a_aload_n C dL_strikesOf_2 0 rfl ?_
      refine a_iload_n C dL_strikesOf_3 1 rfl ?_
      refine a_callC C (k := 0) (As := [.int a]) (rest := [.int 0, .ref (x_b G + 183)]) (h G) (cwV 1 C.1.2.2.2.2 (gl_up gL_strikesOf_X11_strikesOf) rfl rfl rfl (by decide +kernel) ⟨by dsimp only [x_rm]; omega, by dsimp only [x_rm]; omega⟩) x_k0 (q := (RX11, TX11, 13)) rfl rfl rfl rfl (Nat.le_of_ble_eq_true rfl) dL_strikesOf_4 ⟨Nat.le_of_ble_eq_true rfl, Nat.le_of_ble_eq_true rfl⟩ [] ⟨0, 9, 12, 21⟩ [] (hT.trans rfl) (fun z hz => absurd hz List.not_mem_nil) (by decide) (by decide) (List.mem_append_right _ (by decide +kernel)) (by decide +kernel) (fun w => ?_)
      refine a_astore_n C dL_strikesOf_12 (Nat.le_of_ble_eq_true rfl) rfl ?_
      refine a_iconst C dL_strikesOf_13 rfl ?_
      exact a_iretL C rfl hlocks hret dL_strikesOf_14 (by decide) rfl
    · exact absurd (show none = some E from hE) (fun z => by cases z)
theorem w_probationOf (l : Launch) (G : xG) (d d1 : xd) (a : Int32) (k : Nat) (r : Int32) (h : y_C l yX11_probationOf wsX11_probationOf (fun G => [.ref (x_b G + 0), .int a]) ["java/lang/IndexOutOfBoundsException"] k (.int r) d d1) : x_ML G (if k = 0 then x_sl G r.toInt64 else G) l yL_probationOf (wsL_probationOf ++ ws_cl) 11 [.ref (x_b G + 0), .int a, .ref (x_b G + 183)] d (some (.int (nI k))) d1 := by
  obtain ⟨lv, hlv, ⟨rfl, h⟩ | ⟨E, h1, hE, h⟩⟩ := h
  · rw [if_pos rfl]
    refine x_startH (hh := [(0, 9, 12, 21)]) (by decide) rfl rfl (Nat.le_of_ble_eq_true rfl) rfl ?_
    intro p e s m args below meth c C hret hlocks hT
    refine a_aload_n C dL_probationOf_0 2 rfl ?_
    refine a_iconst C dL_probationOf_1 rfl ?_
    refine a_aload_n C dL_probationOf_2 0 rfl ?_
    refine a_iload_n C dL_probationOf_3 1 rfl ?_
    refine a_callV C (k := 0) (As := [.int a]) (rest := [.int 0, .ref (x_b G + 183)]) (h G) (cwV 1 C.1.2.2.2.2 (gl_up gL_probationOf_X11_probationOf) rfl rfl rfl (by decide +kernel) ⟨by dsimp only [x_rm]; omega, by dsimp only [x_rm]; omega⟩) x_k0 (q := (RX11, TX11, 13)) rfl rfl rfl rfl (Nat.le_of_ble_eq_true rfl) dL_probationOf_4 ⟨Nat.le_of_ble_eq_true rfl, Nat.le_of_ble_eq_true rfl⟩ ?_
    refine a_i2l C dL_probationOf_7 ?_
    refine a_last C dL_probationOf_8 ?_
    refine a_goto (C.sl _) dL_probationOf_9 (tgt := 15) rfl ?_
    refine a_iconst (C.sl _) dL_probationOf_15 rfl ?_
    refine a_widen (Nat.zero_le 1) (Nat.zero_le 6) ?_
    exact a_iretL (C.sl _) rfl hlocks hret dL_probationOf_16 (by decide) rfl
  · obtain ⟨k, rfl⟩ : ∃ j, k = j + 1 := ⟨k - 1, by omega⟩
    rw [if_neg (by omega)]
    rcases k with _ | k
    · injection (show some "java/lang/IndexOutOfBoundsException" = some E from hE) with hE
      subst hE
      refine x_startH (hh := [(0, 9, 12, 21)]) (by decide) rfl rfl (Nat.le_of_ble_eq_true rfl) rfl ?_
      intro p e s m args below meth c C hret hlocks hT
      refine a_aload_n C dL_probationOf_0 2 rfl ?_
      refine a_iconst C dL_probationOf_1 rfl ?_
      refine a_aload_n C dL_probationOf_2 0 rfl ?_
      refine a_iload_n C dL_probationOf_3 1 rfl ?_
      refine a_callC C (k := 0) (As := [.int a]) (rest := [.int 0, .ref (x_b G + 183)]) (h G) (cwV 1 C.1.2.2.2.2 (gl_up gL_probationOf_X11_probationOf) rfl rfl rfl (by decide +kernel) ⟨by dsimp only [x_rm]; omega, by dsimp only [x_rm]; omega⟩) x_k0 (q := (RX11, TX11, 13)) rfl rfl rfl rfl (Nat.le_of_ble_eq_true rfl) dL_probationOf_4 ⟨Nat.le_of_ble_eq_true rfl, Nat.le_of_ble_eq_true rfl⟩ [] ⟨0, 9, 12, 21⟩ [] (hT.trans rfl) (fun z hz => absurd hz List.not_mem_nil) (by decide) (by decide) (List.mem_append_right _ (by decide +kernel)) (by decide +kernel) (fun w => ?_)
      refine a_astore_n C dL_probationOf_12 (Nat.le_of_ble_eq_true rfl) rfl ?_
      refine a_iconst C dL_probationOf_13 rfl ?_
      exact a_iretL C rfl hlocks hret dL_probationOf_14 (by decide) rfl
    · exact absurd (show none = some E from hE) (fun z => by cases z)
theorem w_isMember (l : Launch) (G : xG) (d d1 : xd) (a : Int32) (k : Nat) (r : Int32) (h : y_C l yX11_isMember wsX11_isMember (fun G => [.ref (x_b G + 0), .int a]) ["java/lang/IndexOutOfBoundsException"] k (.int r) d d1) : x_ML G (if k = 0 then x_sl G (x_lz r) else G) l yL_isMember (wsL_isMember ++ ws_cl) 11 [.ref (x_b G + 0), .int a, .ref (x_b G + 183)] d (some (.int (nI k))) d1 := by
  obtain ⟨lv, hlv, ⟨rfl, h⟩ | ⟨E, h1, hE, h⟩⟩ := h
  · rw [if_pos rfl]
    refine x_startH (hh := [(0, 16, 19, 21)]) (by decide) rfl rfl (Nat.le_of_ble_eq_true rfl) rfl ?_
    intro p e s m args below meth c C hret hlocks hT
    refine a_aload_n C dL_isMember_0 2 rfl ?_
    refine a_iconst C dL_isMember_1 rfl ?_
    refine a_aload_n C dL_isMember_2 0 rfl ?_
    refine a_iload_n C dL_isMember_3 1 rfl ?_
    refine a_callV C (k := 0) (As := [.int a]) (rest := [.int 0, .ref (x_b G + 183)]) (h G) (cwV 1 C.1.2.2.2.2 (gl_up gL_isMember_X11_isMember) rfl rfl rfl (by decide +kernel) ⟨by dsimp only [x_rm]; omega, by dsimp only [x_rm]; omega⟩) x_k0 (q := (RX11, TX11, 13)) rfl rfl rfl rfl (Nat.le_of_ble_eq_true rfl) dL_isMember_4 ⟨Nat.le_of_ble_eq_true rfl, Nat.le_of_ble_eq_true rfl⟩ ?_
    refine a_if_eq C dL_isMember_7 (tgt := 14) rfl (fun hz => ?_) (fun hz => ?_)
    · rw [show x_lz r = 0 from if_pos hz]
      refine a_lconst C dL_isMember_14 rfl ?_
      refine a_last C dL_isMember_15 ?_
      refine a_goto (C.sl _) dL_isMember_16 (tgt := 22) rfl ?_
      refine a_iconst (C.sl _) dL_isMember_22 rfl ?_
      refine a_widen (Nat.zero_le 1) (Nat.zero_le 6) ?_
      exact a_iretL (C.sl _) rfl hlocks hret dL_isMember_23 (by decide) rfl
    · rw [show x_lz r = 1 from if_neg hz]
      refine a_lconst C dL_isMember_10 rfl ?_
      refine a_goto C dL_isMember_11 (tgt := 15) rfl ?_
      refine a_last C dL_isMember_15 ?_
      refine a_goto (C.sl _) dL_isMember_16 (tgt := 22) rfl ?_
      refine a_iconst (C.sl _) dL_isMember_22 rfl ?_
      refine a_widen (Nat.zero_le 1) (Nat.zero_le 6) ?_
      exact a_iretL (C.sl _) rfl hlocks hret dL_isMember_23 (by decide) rfl
  · obtain ⟨k, rfl⟩ : ∃ j, k = j + 1 := ⟨k - 1, by omega⟩
    rw [if_neg (by omega)]
    rcases k with _ | k
    · injection (show some "java/lang/IndexOutOfBoundsException" = some E from hE) with hE
      subst hE
      refine x_startH (hh := [(0, 16, 19, 21)]) (by decide) rfl rfl (Nat.le_of_ble_eq_true rfl) rfl ?_
      intro p e s m args below meth c C hret hlocks hT
      refine a_aload_n C dL_isMember_0 2 rfl ?_
      refine a_iconst C dL_isMember_1 rfl ?_
      refine a_aload_n C dL_isMember_2 0 rfl ?_
      refine a_iload_n C dL_isMember_3 1 rfl ?_
      refine a_callC C (k := 0) (As := [.int a]) (rest := [.int 0, .ref (x_b G + 183)]) (h G) (cwV 1 C.1.2.2.2.2 (gl_up gL_isMember_X11_isMember) rfl rfl rfl (by decide +kernel) ⟨by dsimp only [x_rm]; omega, by dsimp only [x_rm]; omega⟩) x_k0 (q := (RX11, TX11, 13)) rfl rfl rfl rfl (Nat.le_of_ble_eq_true rfl) dL_isMember_4 ⟨Nat.le_of_ble_eq_true rfl, Nat.le_of_ble_eq_true rfl⟩ [] ⟨0, 16, 19, 21⟩ [] (hT.trans rfl) (fun z hz => absurd hz List.not_mem_nil) (by decide) (by decide) (List.mem_append_right _ (by decide +kernel)) (by decide +kernel) (fun w => ?_)
      refine a_astore_n C dL_isMember_19 (Nat.le_of_ble_eq_true rfl) rfl ?_
      refine a_iconst C dL_isMember_20 rfl ?_
      exact a_iretL C rfl hlocks hret dL_isMember_21 (by decide) rfl
    · exact absurd (show none = some E from hE) (fun z => by cases z)
theorem w_canBurn (l : Launch) (G : xG) (d d1 : xd) (a : Int32) (k : Nat) (r : Int32) (h : y_C l yX11_canBurn wsX11_canBurn (fun G => [.ref (x_b G + 0), .int a]) ["java/lang/IndexOutOfBoundsException"] k (.int r) d d1) : x_ML G (if k = 0 then x_sl G (x_lz r) else G) l yL_canBurn (wsL_canBurn ++ ws_cl) 11 [.ref (x_b G + 0), .int a, .ref (x_b G + 183)] d (some (.int (nI k))) d1 := by
  obtain ⟨lv, hlv, ⟨rfl, h⟩ | ⟨E, h1, hE, h⟩⟩ := h
  · rw [if_pos rfl]
    refine x_startH (hh := [(0, 16, 19, 21)]) (by decide) rfl rfl (Nat.le_of_ble_eq_true rfl) rfl ?_
    intro p e s m args below meth c C hret hlocks hT
    refine a_aload_n C dL_canBurn_0 2 rfl ?_
    refine a_iconst C dL_canBurn_1 rfl ?_
    refine a_aload_n C dL_canBurn_2 0 rfl ?_
    refine a_iload_n C dL_canBurn_3 1 rfl ?_
    refine a_callV C (k := 0) (As := [.int a]) (rest := [.int 0, .ref (x_b G + 183)]) (h G) (cwV 1 C.1.2.2.2.2 (gl_up gL_canBurn_X11_canBurn) rfl rfl rfl (by decide +kernel) ⟨by dsimp only [x_rm]; omega, by dsimp only [x_rm]; omega⟩) x_k0 (q := (RX11, TX11, 13)) rfl rfl rfl rfl (Nat.le_of_ble_eq_true rfl) dL_canBurn_4 ⟨Nat.le_of_ble_eq_true rfl, Nat.le_of_ble_eq_true rfl⟩ ?_
    refine a_if_eq C dL_canBurn_7 (tgt := 14) rfl (fun hz => ?_) (fun hz => ?_)
    · rw [show x_lz r = 0 from if_pos hz]
      refine a_lconst C dL_canBurn_14 rfl ?_
      refine a_last C dL_canBurn_15 ?_
      refine a_goto (C.sl _) dL_canBurn_16 (tgt := 22) rfl ?_
      refine a_iconst (C.sl _) dL_canBurn_22 rfl ?_
      refine a_widen (Nat.zero_le 1) (Nat.zero_le 6) ?_
      exact a_iretL (C.sl _) rfl hlocks hret dL_canBurn_23 (by decide) rfl
    · rw [show x_lz r = 1 from if_neg hz]
      refine a_lconst C dL_canBurn_10 rfl ?_
      refine a_goto C dL_canBurn_11 (tgt := 15) rfl ?_
      refine a_last C dL_canBurn_15 ?_
      refine a_goto (C.sl _) dL_canBurn_16 (tgt := 22) rfl ?_
      refine a_iconst (C.sl _) dL_canBurn_22 rfl ?_
      refine a_widen (Nat.zero_le 1) (Nat.zero_le 6) ?_
      exact a_iretL (C.sl _) rfl hlocks hret dL_canBurn_23 (by decide) rfl
  · obtain ⟨k, rfl⟩ : ∃ j, k = j + 1 := ⟨k - 1, by omega⟩
    rw [if_neg (by omega)]
    rcases k with _ | k
    · injection (show some "java/lang/IndexOutOfBoundsException" = some E from hE) with hE
      subst hE
      refine x_startH (hh := [(0, 16, 19, 21)]) (by decide) rfl rfl (Nat.le_of_ble_eq_true rfl) rfl ?_
      intro p e s m args below meth c C hret hlocks hT
      refine a_aload_n C dL_canBurn_0 2 rfl ?_
      refine a_iconst C dL_canBurn_1 rfl ?_
      refine a_aload_n C dL_canBurn_2 0 rfl ?_
      refine a_iload_n C dL_canBurn_3 1 rfl ?_
      refine a_callC C (k := 0) (As := [.int a]) (rest := [.int 0, .ref (x_b G + 183)]) (h G) (cwV 1 C.1.2.2.2.2 (gl_up gL_canBurn_X11_canBurn) rfl rfl rfl (by decide +kernel) ⟨by dsimp only [x_rm]; omega, by dsimp only [x_rm]; omega⟩) x_k0 (q := (RX11, TX11, 13)) rfl rfl rfl rfl (Nat.le_of_ble_eq_true rfl) dL_canBurn_4 ⟨Nat.le_of_ble_eq_true rfl, Nat.le_of_ble_eq_true rfl⟩ [] ⟨0, 16, 19, 21⟩ [] (hT.trans rfl) (fun z hz => absurd hz List.not_mem_nil) (by decide) (by decide) (List.mem_append_right _ (by decide +kernel)) (by decide +kernel) (fun w => ?_)
      refine a_astore_n C dL_canBurn_19 (Nat.le_of_ble_eq_true rfl) rfl ?_
      refine a_iconst C dL_canBurn_20 rfl ?_
      exact a_iretL C rfl hlocks hret dL_canBurn_21 (by decide) rfl
    · exact absurd (show none = some E from hE) (fun z => by cases z)
theorem w_nightsOf (l : Launch) (G : xG) (d d1 : xd) (a : Int32) (k : Nat) (r : Int32) (h : y_C l yX11_nightsOf wsX11_nightsOf (fun G => [.ref (x_b G + 0), .int a]) ["java/lang/IndexOutOfBoundsException"] k (.int r) d d1) : x_ML G (if k = 0 then x_sl G r.toInt64 else G) l yL_nightsOf (wsL_nightsOf ++ ws_cl) 11 [.ref (x_b G + 0), .int a, .ref (x_b G + 183)] d (some (.int (nI k))) d1 := by
  obtain ⟨lv, hlv, ⟨rfl, h⟩ | ⟨E, h1, hE, h⟩⟩ := h
  · rw [if_pos rfl]
    refine x_startH (hh := [(0, 9, 12, 21)]) (by decide) rfl rfl (Nat.le_of_ble_eq_true rfl) rfl ?_
    intro p e s m args below meth c C hret hlocks hT
    refine a_aload_n C dL_nightsOf_0 2 rfl ?_
    refine a_iconst C dL_nightsOf_1 rfl ?_
    refine a_aload_n C dL_nightsOf_2 0 rfl ?_
    refine a_iload_n C dL_nightsOf_3 1 rfl ?_
    refine a_callV C (k := 0) (As := [.int a]) (rest := [.int 0, .ref (x_b G + 183)]) (h G) (cwV 1 C.1.2.2.2.2 (gl_up gL_nightsOf_X11_nightsOf) rfl rfl rfl (by decide +kernel) ⟨by dsimp only [x_rm]; omega, by dsimp only [x_rm]; omega⟩) x_k0 (q := (RX11, TX11, 13)) rfl rfl rfl rfl (Nat.le_of_ble_eq_true rfl) dL_nightsOf_4 ⟨Nat.le_of_ble_eq_true rfl, Nat.le_of_ble_eq_true rfl⟩ ?_
    refine a_i2l C dL_nightsOf_7 ?_
    refine a_last C dL_nightsOf_8 ?_
    refine a_goto (C.sl _) dL_nightsOf_9 (tgt := 15) rfl ?_
    refine a_iconst (C.sl _) dL_nightsOf_15 rfl ?_
    refine a_widen (Nat.zero_le 1) (Nat.zero_le 6) ?_
    exact a_iretL (C.sl _) rfl hlocks hret dL_nightsOf_16 (by decide) rfl
  · obtain ⟨k, rfl⟩ : ∃ j, k = j + 1 := ⟨k - 1, by omega⟩
    rw [if_neg (by omega)]
    rcases k with _ | k
    · injection (show some "java/lang/IndexOutOfBoundsException" = some E from hE) with hE
      subst hE
      refine x_startH (hh := [(0, 9, 12, 21)]) (by decide) rfl rfl (Nat.le_of_ble_eq_true rfl) rfl ?_
      intro p e s m args below meth c C hret hlocks hT
      refine a_aload_n C dL_nightsOf_0 2 rfl ?_
      refine a_iconst C dL_nightsOf_1 rfl ?_
      refine a_aload_n C dL_nightsOf_2 0 rfl ?_
      refine a_iload_n C dL_nightsOf_3 1 rfl ?_
      refine a_callC C (k := 0) (As := [.int a]) (rest := [.int 0, .ref (x_b G + 183)]) (h G) (cwV 1 C.1.2.2.2.2 (gl_up gL_nightsOf_X11_nightsOf) rfl rfl rfl (by decide +kernel) ⟨by dsimp only [x_rm]; omega, by dsimp only [x_rm]; omega⟩) x_k0 (q := (RX11, TX11, 13)) rfl rfl rfl rfl (Nat.le_of_ble_eq_true rfl) dL_nightsOf_4 ⟨Nat.le_of_ble_eq_true rfl, Nat.le_of_ble_eq_true rfl⟩ [] ⟨0, 9, 12, 21⟩ [] (hT.trans rfl) (fun z hz => absurd hz List.not_mem_nil) (by decide) (by decide) (List.mem_append_right _ (by decide +kernel)) (by decide +kernel) (fun w => ?_)
      refine a_astore_n C dL_nightsOf_12 (Nat.le_of_ble_eq_true rfl) rfl ?_
      refine a_iconst C dL_nightsOf_13 rfl ?_
      exact a_iretL C rfl hlocks hret dL_nightsOf_14 (by decide) rfl
    · exact absurd (show none = some E from hE) (fun z => by cases z)
theorem w_nightsBySimulation (l : Launch) (G : xG) (d d1 : xd) (a : Int32) (k : Nat) (r : Int32) (h : y_C l yX11_nightsBySimulation wsX11_nightsBySimulation (fun G => [.ref (x_b G + 0), .int a]) ["java/lang/IndexOutOfBoundsException"] k (.int r) d d1) : x_ML G (if k = 0 then x_sl G r.toInt64 else G) l yL_nightsBySimulation (wsL_nightsBySimulation ++ ws_cl) 11 [.ref (x_b G + 0), .int a, .ref (x_b G + 183)] d (some (.int (nI k))) d1 := by
  obtain ⟨lv, hlv, ⟨rfl, h⟩ | ⟨E, h1, hE, h⟩⟩ := h
  · rw [if_pos rfl]
    refine x_startH (hh := [(0, 9, 12, 21)]) (by decide) rfl rfl (Nat.le_of_ble_eq_true rfl) rfl ?_
    intro p e s m args below meth c C hret hlocks hT
    refine a_aload_n C dL_nightsBySimulation_0 2 rfl ?_
    refine a_iconst C dL_nightsBySimulation_1 rfl ?_
    refine a_aload_n C dL_nightsBySimulation_2 0 rfl ?_
    refine a_iload_n C dL_nightsBySimulation_3 1 rfl ?_
    refine a_callV C (k := 0) (As := [.int a]) (rest := [.int 0, .ref (x_b G + 183)]) (h G) (cwV 1 C.1.2.2.2.2 (gl_up gL_nightsBySimulation_X11_nightsBySimulation) rfl rfl rfl (by decide +kernel) ⟨by dsimp only [x_rm]; omega, by dsimp only [x_rm]; omega⟩) x_k0 (q := (RX11, TX11, 13)) rfl rfl rfl rfl (Nat.le_of_ble_eq_true rfl) dL_nightsBySimulation_4 ⟨Nat.le_of_ble_eq_true rfl, Nat.le_of_ble_eq_true rfl⟩ ?_
    refine a_i2l C dL_nightsBySimulation_7 ?_
    refine a_last C dL_nightsBySimulation_8 ?_
    refine a_goto (C.sl _) dL_nightsBySimulation_9 (tgt := 15) rfl ?_
    refine a_iconst (C.sl _) dL_nightsBySimulation_15 rfl ?_
    refine a_widen (Nat.zero_le 1) (Nat.zero_le 6) ?_
    exact a_iretL (C.sl _) rfl hlocks hret dL_nightsBySimulation_16 (by decide) rfl
  · obtain ⟨k, rfl⟩ : ∃ j, k = j + 1 := ⟨k - 1, by omega⟩
    rw [if_neg (by omega)]
    rcases k with _ | k
    · injection (show some "java/lang/IndexOutOfBoundsException" = some E from hE) with hE
      subst hE
      refine x_startH (hh := [(0, 9, 12, 21)]) (by decide) rfl rfl (Nat.le_of_ble_eq_true rfl) rfl ?_
      intro p e s m args below meth c C hret hlocks hT
      refine a_aload_n C dL_nightsBySimulation_0 2 rfl ?_
      refine a_iconst C dL_nightsBySimulation_1 rfl ?_
      refine a_aload_n C dL_nightsBySimulation_2 0 rfl ?_
      refine a_iload_n C dL_nightsBySimulation_3 1 rfl ?_
      refine a_callC C (k := 0) (As := [.int a]) (rest := [.int 0, .ref (x_b G + 183)]) (h G) (cwV 1 C.1.2.2.2.2 (gl_up gL_nightsBySimulation_X11_nightsBySimulation) rfl rfl rfl (by decide +kernel) ⟨by dsimp only [x_rm]; omega, by dsimp only [x_rm]; omega⟩) x_k0 (q := (RX11, TX11, 13)) rfl rfl rfl rfl (Nat.le_of_ble_eq_true rfl) dL_nightsBySimulation_4 ⟨Nat.le_of_ble_eq_true rfl, Nat.le_of_ble_eq_true rfl⟩ [] ⟨0, 9, 12, 21⟩ [] (hT.trans rfl) (fun z hz => absurd hz List.not_mem_nil) (by decide) (by decide) (List.mem_append_right _ (by decide +kernel)) (by decide +kernel) (fun w => ?_)
      refine a_astore_n C dL_nightsBySimulation_12 (Nat.le_of_ble_eq_true rfl) rfl ?_
      refine a_iconst C dL_nightsBySimulation_13 rfl ?_
      exact a_iretL C rfl hlocks hret dL_nightsBySimulation_14 (by decide) rfl
    · exact absurd (show none = some E from hE) (fun z => by cases z)
theorem w_glowOf (l : Launch) (G : xG) (d d1 : xd) (a : Int32) (k : Nat) (r : Int32) (h : y_C l yX11_glowOf wsX11_glowOf (fun G => [.ref (x_b G + 0), .int a]) ["java/lang/IndexOutOfBoundsException"] k (.int r) d d1) : x_ML G (if k = 0 then x_sl G r.toInt64 else G) l yL_glowOf (wsL_glowOf ++ ws_cl) 11 [.ref (x_b G + 0), .int a, .ref (x_b G + 183)] d (some (.int (nI k))) d1 := by
  obtain ⟨lv, hlv, ⟨rfl, h⟩ | ⟨E, h1, hE, h⟩⟩ := h
  · rw [if_pos rfl]
    refine x_startH (hh := [(0, 9, 12, 21)]) (by decide) rfl rfl (Nat.le_of_ble_eq_true rfl) rfl ?_
    intro p e s m args below meth c C hret hlocks hT
    refine a_aload_n C dL_glowOf_0 2 rfl ?_
    refine a_iconst C dL_glowOf_1 rfl ?_
    refine a_aload_n C dL_glowOf_2 0 rfl ?_
    refine a_iload_n C dL_glowOf_3 1 rfl ?_
    refine a_callV C (k := 0) (As := [.int a]) (rest := [.int 0, .ref (x_b G + 183)]) (h G) (cwV 1 C.1.2.2.2.2 (gl_up gL_glowOf_X11_glowOf) rfl rfl rfl (by decide +kernel) ⟨by dsimp only [x_rm]; omega, by dsimp only [x_rm]; omega⟩) x_k0 (q := (RX11, TX11, 13)) rfl rfl rfl rfl (Nat.le_of_ble_eq_true rfl) dL_glowOf_4 ⟨Nat.le_of_ble_eq_true rfl, Nat.le_of_ble_eq_true rfl⟩ ?_
    refine a_i2l C dL_glowOf_7 ?_
    refine a_last C dL_glowOf_8 ?_
    refine a_goto (C.sl _) dL_glowOf_9 (tgt := 15) rfl ?_
    refine a_iconst (C.sl _) dL_glowOf_15 rfl ?_
    refine a_widen (Nat.zero_le 1) (Nat.zero_le 6) ?_
    exact a_iretL (C.sl _) rfl hlocks hret dL_glowOf_16 (by decide) rfl
  · obtain ⟨k, rfl⟩ : ∃ j, k = j + 1 := ⟨k - 1, by omega⟩
    rw [if_neg (by omega)]
    rcases k with _ | k
    · injection (show some "java/lang/IndexOutOfBoundsException" = some E from hE) with hE
      subst hE
      refine x_startH (hh := [(0, 9, 12, 21)]) (by decide) rfl rfl (Nat.le_of_ble_eq_true rfl) rfl ?_
      intro p e s m args below meth c C hret hlocks hT
      refine a_aload_n C dL_glowOf_0 2 rfl ?_
      refine a_iconst C dL_glowOf_1 rfl ?_
      refine a_aload_n C dL_glowOf_2 0 rfl ?_
      refine a_iload_n C dL_glowOf_3 1 rfl ?_
      refine a_callC C (k := 0) (As := [.int a]) (rest := [.int 0, .ref (x_b G + 183)]) (h G) (cwV 1 C.1.2.2.2.2 (gl_up gL_glowOf_X11_glowOf) rfl rfl rfl (by decide +kernel) ⟨by dsimp only [x_rm]; omega, by dsimp only [x_rm]; omega⟩) x_k0 (q := (RX11, TX11, 13)) rfl rfl rfl rfl (Nat.le_of_ble_eq_true rfl) dL_glowOf_4 ⟨Nat.le_of_ble_eq_true rfl, Nat.le_of_ble_eq_true rfl⟩ [] ⟨0, 9, 12, 21⟩ [] (hT.trans rfl) (fun z hz => absurd hz List.not_mem_nil) (by decide) (by decide) (List.mem_append_right _ (by decide +kernel)) (by decide +kernel) (fun w => ?_)
      refine a_astore_n C dL_glowOf_12 (Nat.le_of_ble_eq_true rfl) rfl ?_
      refine a_iconst C dL_glowOf_13 rfl ?_
      exact a_iretL C rfl hlocks hret dL_glowOf_14 (by decide) rfl
    · exact absurd (show none = some E from hE) (fun z => by cases z)
theorem w_isDark (l : Launch) (G : xG) (d d1 : xd) (a : Int32) (k : Nat) (r : Int32) (h : y_C l yX11_isDark wsX11_isDark (fun G => [.ref (x_b G + 0), .int a]) ["java/lang/IndexOutOfBoundsException"] k (.int r) d d1) : x_ML G (if k = 0 then x_sl G (x_lz r) else G) l yL_isDark (wsL_isDark ++ ws_cl) 11 [.ref (x_b G + 0), .int a, .ref (x_b G + 183)] d (some (.int (nI k))) d1 := by
  obtain ⟨lv, hlv, ⟨rfl, h⟩ | ⟨E, h1, hE, h⟩⟩ := h
  · rw [if_pos rfl]
    refine x_startH (hh := [(0, 16, 19, 21)]) (by decide) rfl rfl (Nat.le_of_ble_eq_true rfl) rfl ?_
    intro p e s m args below meth c C hret hlocks hT
    refine a_aload_n C dL_isDark_0 2 rfl ?_
    refine a_iconst C dL_isDark_1 rfl ?_
    refine a_aload_n C dL_isDark_2 0 rfl ?_
    refine a_iload_n C dL_isDark_3 1 rfl ?_
    refine a_callV C (k := 0) (As := [.int a]) (rest := [.int 0, .ref (x_b G + 183)]) (h G) (cwV 1 C.1.2.2.2.2 (gl_up gL_isDark_X11_isDark) rfl rfl rfl (by decide +kernel) ⟨by dsimp only [x_rm]; omega, by dsimp only [x_rm]; omega⟩) x_k0 (q := (RX11, TX11, 13)) rfl rfl rfl rfl (Nat.le_of_ble_eq_true rfl) dL_isDark_4 ⟨Nat.le_of_ble_eq_true rfl, Nat.le_of_ble_eq_true rfl⟩ ?_
    refine a_if_eq C dL_isDark_7 (tgt := 14) rfl (fun hz => ?_) (fun hz => ?_)
    · rw [show x_lz r = 0 from if_pos hz]
      refine a_lconst C dL_isDark_14 rfl ?_
      refine a_last C dL_isDark_15 ?_
      refine a_goto (C.sl _) dL_isDark_16 (tgt := 22) rfl ?_
      refine a_iconst (C.sl _) dL_isDark_22 rfl ?_
      refine a_widen (Nat.zero_le 1) (Nat.zero_le 6) ?_
      exact a_iretL (C.sl _) rfl hlocks hret dL_isDark_23 (by decide) rfl
    · rw [show x_lz r = 1 from if_neg hz]
      refine a_lconst C dL_isDark_10 rfl ?_
      refine a_goto C dL_isDark_11 (tgt := 15) rfl ?_
      refine a_last C dL_isDark_15 ?_
      refine a_goto (C.sl _) dL_isDark_16 (tgt := 22) rfl ?_
      refine a_iconst (C.sl _) dL_isDark_22 rfl ?_
      refine a_widen (Nat.zero_le 1) (Nat.zero_le 6) ?_
      exact a_iretL (C.sl _) rfl hlocks hret dL_isDark_23 (by decide) rfl
  · obtain ⟨k, rfl⟩ : ∃ j, k = j + 1 := ⟨k - 1, by omega⟩
    rw [if_neg (by omega)]
    rcases k with _ | k
    · injection (show some "java/lang/IndexOutOfBoundsException" = some E from hE) with hE
      subst hE
      refine x_startH (hh := [(0, 16, 19, 21)]) (by decide) rfl rfl (Nat.le_of_ble_eq_true rfl) rfl ?_
      intro p e s m args below meth c C hret hlocks hT
      refine a_aload_n C dL_isDark_0 2 rfl ?_
      refine a_iconst C dL_isDark_1 rfl ?_
      refine a_aload_n C dL_isDark_2 0 rfl ?_
      refine a_iload_n C dL_isDark_3 1 rfl ?_
      refine a_callC C (k := 0) (As := [.int a]) (rest := [.int 0, .ref (x_b G + 183)]) (h G) (cwV 1 C.1.2.2.2.2 (gl_up gL_isDark_X11_isDark) rfl rfl rfl (by decide +kernel) ⟨by dsimp only [x_rm]; omega, by dsimp only [x_rm]; omega⟩) x_k0 (q := (RX11, TX11, 13)) rfl rfl rfl rfl (Nat.le_of_ble_eq_true rfl) dL_isDark_4 ⟨Nat.le_of_ble_eq_true rfl, Nat.le_of_ble_eq_true rfl⟩ [] ⟨0, 16, 19, 21⟩ [] (hT.trans rfl) (fun z hz => absurd hz List.not_mem_nil) (by decide) (by decide) (List.mem_append_right _ (by decide +kernel)) (by decide +kernel) (fun w => ?_)
      refine a_astore_n C dL_isDark_19 (Nat.le_of_ble_eq_true rfl) rfl ?_
      refine a_iconst C dL_isDark_20 rfl ?_
      exact a_iretL C rfl hlocks hret dL_isDark_21 (by decide) rfl
    · exact absurd (show none = some E from hE) (fun z => by cases z)
theorem w_proposeCap (l : Launch) (G : xG) (d d1 : xd) (a : Int32) (k : Nat) (r : Int32) (h : y_C l yX11_proposeCap wsX11_proposeCap (fun G => [.ref (x_b G + 0), .int a]) ["java/lang/IllegalArgumentException", "java/lang/IllegalStateException"] k (.int r) d d1) : x_ML G (if k = 0 then x_sl G (x_lz r) else G) l yL_proposeCap (wsL_proposeCap ++ ws_cl) 11 [.ref (x_b G + 0), .int a, .ref (x_b G + 183)] d (some (.int (nI k))) d1 := by
  obtain ⟨lv, hlv, ⟨rfl, h⟩ | ⟨E, h1, hE, h⟩⟩ := h
  · rw [if_pos rfl]
    refine x_startH (hh := [(0, 16, 19, 13), (0, 16, 22, 15)]) (by decide) rfl rfl (Nat.le_of_ble_eq_true rfl) rfl ?_
    intro p e s m args below meth c C hret hlocks hT
    refine a_aload_n C dL_proposeCap_0 2 rfl ?_
    refine a_iconst C dL_proposeCap_1 rfl ?_
    refine a_aload_n C dL_proposeCap_2 0 rfl ?_
    refine a_iload_n C dL_proposeCap_3 1 rfl ?_
    refine a_callV C (k := 0) (As := [.int a]) (rest := [.int 0, .ref (x_b G + 183)]) (h G) (cwV 1 C.1.2.2.2.2 (gl_up gL_proposeCap_X11_proposeCap) rfl rfl rfl (by decide +kernel) ⟨by dsimp only [x_rm]; omega, by dsimp only [x_rm]; omega⟩) x_k0 (q := (RX11, TX11, 13)) rfl rfl rfl rfl (Nat.le_of_ble_eq_true rfl) dL_proposeCap_4 ⟨Nat.le_of_ble_eq_true rfl, Nat.le_of_ble_eq_true rfl⟩ ?_
    refine a_if_eq C dL_proposeCap_7 (tgt := 14) rfl (fun hz => ?_) (fun hz => ?_)
    · rw [show x_lz r = 0 from if_pos hz]
      refine a_lconst C dL_proposeCap_14 rfl ?_
      refine a_last C dL_proposeCap_15 ?_
      refine a_goto (C.sl _) dL_proposeCap_16 (tgt := 25) rfl ?_
      refine a_iconst (C.sl _) dL_proposeCap_25 rfl ?_
      refine a_widen (Nat.zero_le 1) (Nat.zero_le 6) ?_
      exact a_iretL (C.sl _) rfl hlocks hret dL_proposeCap_26 (by decide) rfl
    · rw [show x_lz r = 1 from if_neg hz]
      refine a_lconst C dL_proposeCap_10 rfl ?_
      refine a_goto C dL_proposeCap_11 (tgt := 15) rfl ?_
      refine a_last C dL_proposeCap_15 ?_
      refine a_goto (C.sl _) dL_proposeCap_16 (tgt := 25) rfl ?_
      refine a_iconst (C.sl _) dL_proposeCap_25 rfl ?_
      refine a_widen (Nat.zero_le 1) (Nat.zero_le 6) ?_
      exact a_iretL (C.sl _) rfl hlocks hret dL_proposeCap_26 (by decide) rfl
  · obtain ⟨k, rfl⟩ : ∃ j, k = j + 1 := ⟨k - 1, by omega⟩
    rw [if_neg (by omega)]
    rcases k with _ | _ | k
    · injection (show some "java/lang/IllegalArgumentException" = some E from hE) with hE
      subst hE
      refine x_startH (hh := [(0, 16, 19, 13), (0, 16, 22, 15)]) (by decide) rfl rfl (Nat.le_of_ble_eq_true rfl) rfl ?_
      intro p e s m args below meth c C hret hlocks hT
      refine a_aload_n C dL_proposeCap_0 2 rfl ?_
      refine a_iconst C dL_proposeCap_1 rfl ?_
      refine a_aload_n C dL_proposeCap_2 0 rfl ?_
      refine a_iload_n C dL_proposeCap_3 1 rfl ?_
      refine a_callC C (k := 0) (As := [.int a]) (rest := [.int 0, .ref (x_b G + 183)]) (h G) (cwV 1 C.1.2.2.2.2 (gl_up gL_proposeCap_X11_proposeCap) rfl rfl rfl (by decide +kernel) ⟨by dsimp only [x_rm]; omega, by dsimp only [x_rm]; omega⟩) x_k0 (q := (RX11, TX11, 13)) rfl rfl rfl rfl (Nat.le_of_ble_eq_true rfl) dL_proposeCap_4 ⟨Nat.le_of_ble_eq_true rfl, Nat.le_of_ble_eq_true rfl⟩ [] ⟨0, 16, 19, 13⟩ [⟨0, 16, 22, 15⟩] (hT.trans rfl) (fun z hz => absurd hz List.not_mem_nil) (by decide) (by decide) (List.mem_append_right _ (by decide +kernel)) (by decide +kernel) (fun w => ?_)
      refine a_astore_n C dL_proposeCap_19 (Nat.le_of_ble_eq_true rfl) rfl ?_
      refine a_iconst C dL_proposeCap_20 rfl ?_
      exact a_iretL C rfl hlocks hret dL_proposeCap_21 (by decide) rfl
    · injection (show some "java/lang/IllegalStateException" = some E from hE) with hE
      subst hE
      refine x_startH (hh := [(0, 16, 19, 13), (0, 16, 22, 15)]) (by decide) rfl rfl (Nat.le_of_ble_eq_true rfl) rfl ?_
      intro p e s m args below meth c C hret hlocks hT
      refine a_aload_n C dL_proposeCap_0 2 rfl ?_
      refine a_iconst C dL_proposeCap_1 rfl ?_
      refine a_aload_n C dL_proposeCap_2 0 rfl ?_
      refine a_iload_n C dL_proposeCap_3 1 rfl ?_
      refine a_callC C (k := 0) (As := [.int a]) (rest := [.int 0, .ref (x_b G + 183)]) (h G) (cwV 1 C.1.2.2.2.2 (gl_up gL_proposeCap_X11_proposeCap) rfl rfl rfl (by decide +kernel) ⟨by dsimp only [x_rm]; omega, by dsimp only [x_rm]; omega⟩) x_k0 (q := (RX11, TX11, 13)) rfl rfl rfl rfl (Nat.le_of_ble_eq_true rfl) dL_proposeCap_4 ⟨Nat.le_of_ble_eq_true rfl, Nat.le_of_ble_eq_true rfl⟩ [⟨0, 16, 19, 13⟩] ⟨0, 16, 22, 15⟩ [] (hT.trans rfl) (fun z hz => by
        cases List.mem_singleton.mp hz
        exact ⟨by decide, "java/lang/IllegalArgumentException", List.mem_append_right _ (by decide +kernel), by decide +kernel⟩) (by decide) (by decide) (List.mem_append_right _ (by decide +kernel)) (by decide +kernel) (fun w => ?_)
      refine a_astore_n C dL_proposeCap_22 (Nat.le_of_ble_eq_true rfl) rfl ?_
      refine a_iconst C dL_proposeCap_23 rfl ?_
      exact a_iretL C rfl hlocks hret dL_proposeCap_24 (by decide) rfl
    · exact absurd (show none = some E from hE) (fun z => by cases z)
theorem w_votesFor (l : Launch) (G : xG) (d d1 : xd) (a : Int32) (k : Nat) (r : Int32) (h : y_C l yX11_votesFor wsX11_votesFor (fun G => [.ref (x_b G + 0), .int a]) ["java/lang/IllegalArgumentException"] k (.int r) d d1) : x_ML G (if k = 0 then x_sl G r.toInt64 else G) l yL_votesFor (wsL_votesFor ++ ws_cl) 11 [.ref (x_b G + 0), .int a, .ref (x_b G + 183)] d (some (.int (nI k))) d1 := by
  obtain ⟨lv, hlv, ⟨rfl, h⟩ | ⟨E, h1, hE, h⟩⟩ := h
  · rw [if_pos rfl]
    refine x_startH (hh := [(0, 9, 12, 13)]) (by decide) rfl rfl (Nat.le_of_ble_eq_true rfl) rfl ?_
    intro p e s m args below meth c C hret hlocks hT
    refine a_aload_n C dL_votesFor_0 2 rfl ?_
    refine a_iconst C dL_votesFor_1 rfl ?_
    refine a_aload_n C dL_votesFor_2 0 rfl ?_
    refine a_iload_n C dL_votesFor_3 1 rfl ?_
    refine a_callV C (k := 0) (As := [.int a]) (rest := [.int 0, .ref (x_b G + 183)]) (h G) (cwV 1 C.1.2.2.2.2 (gl_up gL_votesFor_X11_votesFor) rfl rfl rfl (by decide +kernel) ⟨by dsimp only [x_rm]; omega, by dsimp only [x_rm]; omega⟩) x_k0 (q := (RX11, TX11, 13)) rfl rfl rfl rfl (Nat.le_of_ble_eq_true rfl) dL_votesFor_4 ⟨Nat.le_of_ble_eq_true rfl, Nat.le_of_ble_eq_true rfl⟩ ?_
    refine a_i2l C dL_votesFor_7 ?_
    refine a_last C dL_votesFor_8 ?_
    refine a_goto (C.sl _) dL_votesFor_9 (tgt := 15) rfl ?_
    refine a_iconst (C.sl _) dL_votesFor_15 rfl ?_
    refine a_widen (Nat.zero_le 1) (Nat.zero_le 6) ?_
    exact a_iretL (C.sl _) rfl hlocks hret dL_votesFor_16 (by decide) rfl
  · obtain ⟨k, rfl⟩ : ∃ j, k = j + 1 := ⟨k - 1, by omega⟩
    rw [if_neg (by omega)]
    rcases k with _ | k
    · injection (show some "java/lang/IllegalArgumentException" = some E from hE) with hE
      subst hE
      refine x_startH (hh := [(0, 9, 12, 13)]) (by decide) rfl rfl (Nat.le_of_ble_eq_true rfl) rfl ?_
      intro p e s m args below meth c C hret hlocks hT
      refine a_aload_n C dL_votesFor_0 2 rfl ?_
      refine a_iconst C dL_votesFor_1 rfl ?_
      refine a_aload_n C dL_votesFor_2 0 rfl ?_
      refine a_iload_n C dL_votesFor_3 1 rfl ?_
      refine a_callC C (k := 0) (As := [.int a]) (rest := [.int 0, .ref (x_b G + 183)]) (h G) (cwV 1 C.1.2.2.2.2 (gl_up gL_votesFor_X11_votesFor) rfl rfl rfl (by decide +kernel) ⟨by dsimp only [x_rm]; omega, by dsimp only [x_rm]; omega⟩) x_k0 (q := (RX11, TX11, 13)) rfl rfl rfl rfl (Nat.le_of_ble_eq_true rfl) dL_votesFor_4 ⟨Nat.le_of_ble_eq_true rfl, Nat.le_of_ble_eq_true rfl⟩ [] ⟨0, 9, 12, 13⟩ [] (hT.trans rfl) (fun z hz => absurd hz List.not_mem_nil) (by decide) (by decide) (List.mem_append_right _ (by decide +kernel)) (by decide +kernel) (fun w => ?_)
      refine a_astore_n C dL_votesFor_12 (Nat.le_of_ble_eq_true rfl) rfl ?_
      refine a_iconst C dL_votesFor_13 rfl ?_
      exact a_iretL C rfl hlocks hret dL_votesFor_14 (by decide) rfl
    · exact absurd (show none = some E from hE) (fun z => by cases z)
theorem w_lowestCap (l : Launch) (G : xG) (d d1 : xd) (k : Nat) (r : Int32) (h : y_C l yX11_lowestCap wsX11_lowestCap (fun G => [.ref (x_b G + 0)]) ["java/util/NoSuchElementException"] k (.int r) d d1) : x_ML G (if k = 0 then x_sl G r.toInt64 else G) l yL_lowestCap (wsL_lowestCap ++ ws_cl) 11 [.ref (x_b G + 0), .ref (x_b G + 183)] d (some (.int (nI k))) d1 := by
  obtain ⟨lv, hlv, ⟨rfl, h⟩ | ⟨E, h1, hE, h⟩⟩ := h
  · rw [if_pos rfl]
    refine x_startH (hh := [(0, 8, 11, 124)]) (by decide) rfl rfl (Nat.le_of_ble_eq_true rfl) rfl ?_
    intro p e s m args below meth c C hret hlocks hT
    refine a_aload_n C dL_lowestCap_0 1 rfl ?_
    refine a_iconst C dL_lowestCap_1 rfl ?_
    refine a_aload_n C dL_lowestCap_2 0 rfl ?_
    refine a_callV C (k := 0) (As := []) (rest := [.int 0, .ref (x_b G + 183)]) (h G) (cwV 0 C.1.2.2.2.2 (gl_up gL_lowestCap_X11_lowestCap) rfl rfl rfl (by decide +kernel) ⟨by dsimp only [x_rm]; omega, by dsimp only [x_rm]; omega⟩) x_k0 (q := (RX11, TX11, 13)) rfl rfl rfl rfl (Nat.le_of_ble_eq_true rfl) dL_lowestCap_3 ⟨Nat.le_of_ble_eq_true rfl, Nat.le_of_ble_eq_true rfl⟩ ?_
    refine a_i2l C dL_lowestCap_6 ?_
    refine a_last C dL_lowestCap_7 ?_
    refine a_goto (C.sl _) dL_lowestCap_8 (tgt := 14) rfl ?_
    refine a_iconst (C.sl _) dL_lowestCap_14 rfl ?_
    refine a_widen (Nat.zero_le 1) (Nat.zero_le 6) ?_
    exact a_iretL (C.sl _) rfl hlocks hret dL_lowestCap_15 (by decide) rfl
  · obtain ⟨k, rfl⟩ : ∃ j, k = j + 1 := ⟨k - 1, by omega⟩
    rw [if_neg (by omega)]
    rcases k with _ | k
    · injection (show some "java/util/NoSuchElementException" = some E from hE) with hE
      subst hE
      refine x_startH (hh := [(0, 8, 11, 124)]) (by decide) rfl rfl (Nat.le_of_ble_eq_true rfl) rfl ?_
      intro p e s m args below meth c C hret hlocks hT
      refine a_aload_n C dL_lowestCap_0 1 rfl ?_
      refine a_iconst C dL_lowestCap_1 rfl ?_
      refine a_aload_n C dL_lowestCap_2 0 rfl ?_
      refine a_callC C (k := 0) (As := []) (rest := [.int 0, .ref (x_b G + 183)]) (h G) (cwV 0 C.1.2.2.2.2 (gl_up gL_lowestCap_X11_lowestCap) rfl rfl rfl (by decide +kernel) ⟨by dsimp only [x_rm]; omega, by dsimp only [x_rm]; omega⟩) x_k0 (q := (RX11, TX11, 13)) rfl rfl rfl rfl (Nat.le_of_ble_eq_true rfl) dL_lowestCap_3 ⟨Nat.le_of_ble_eq_true rfl, Nat.le_of_ble_eq_true rfl⟩ [] ⟨0, 8, 11, 124⟩ [] (hT.trans rfl) (fun z hz => absurd hz List.not_mem_nil) (by decide) (by decide) (List.mem_append_right _ (by decide +kernel)) (by decide +kernel) (fun w => ?_)
      refine a_astore_n C dL_lowestCap_11 (Nat.le_of_ble_eq_true rfl) rfl ?_
      refine a_iconst C dL_lowestCap_12 rfl ?_
      exact a_iretL C rfl hlocks hret dL_lowestCap_13 (by decide) rfl
    · exact absurd (show none = some E from hE) (fun z => by cases z)
theorem w_richestLamp (l : Launch) (G : xG) (d d1 : xd) (a : Int32) (k : Nat) (r : Int32) (h : y_C l yX11_richestLamp wsX11_richestLamp (fun G => [.ref (x_b G + 0), .int a]) ["java/util/NoSuchElementException"] k (.int r) d d1) : x_ML G (if k = 0 then x_sl G r.toInt64 else G) l yL_richestLamp (wsL_richestLamp ++ ws_cl) 11 [.ref (x_b G + 0), .int a, .ref (x_b G + 183)] d (some (.int (nI k))) d1 := by
  obtain ⟨lv, hlv, ⟨rfl, h⟩ | ⟨E, h1, hE, h⟩⟩ := h
  · rw [if_pos rfl]
    refine x_startH (hh := [(0, 9, 12, 124)]) (by decide) rfl rfl (Nat.le_of_ble_eq_true rfl) rfl ?_
    intro p e s m args below meth c C hret hlocks hT
    refine a_aload_n C dL_richestLamp_0 2 rfl ?_
    refine a_iconst C dL_richestLamp_1 rfl ?_
    refine a_aload_n C dL_richestLamp_2 0 rfl ?_
    refine a_iload_n C dL_richestLamp_3 1 rfl ?_
    refine a_callV C (k := 0) (As := [.int a]) (rest := [.int 0, .ref (x_b G + 183)]) (h G) (cwV 1 C.1.2.2.2.2 (gl_up gL_richestLamp_X11_richestLamp) rfl rfl rfl (by decide +kernel) ⟨by dsimp only [x_rm]; omega, by dsimp only [x_rm]; omega⟩) x_k0 (q := (RX11, TX11, 13)) rfl rfl rfl rfl (Nat.le_of_ble_eq_true rfl) dL_richestLamp_4 ⟨Nat.le_of_ble_eq_true rfl, Nat.le_of_ble_eq_true rfl⟩ ?_
    refine a_i2l C dL_richestLamp_7 ?_
    refine a_last C dL_richestLamp_8 ?_
    refine a_goto (C.sl _) dL_richestLamp_9 (tgt := 15) rfl ?_
    refine a_iconst (C.sl _) dL_richestLamp_15 rfl ?_
    refine a_widen (Nat.zero_le 1) (Nat.zero_le 6) ?_
    exact a_iretL (C.sl _) rfl hlocks hret dL_richestLamp_16 (by decide) rfl
  · obtain ⟨k, rfl⟩ : ∃ j, k = j + 1 := ⟨k - 1, by omega⟩
    rw [if_neg (by omega)]
    rcases k with _ | k
    · injection (show some "java/util/NoSuchElementException" = some E from hE) with hE
      subst hE
      refine x_startH (hh := [(0, 9, 12, 124)]) (by decide) rfl rfl (Nat.le_of_ble_eq_true rfl) rfl ?_
      intro p e s m args below meth c C hret hlocks hT
      refine a_aload_n C dL_richestLamp_0 2 rfl ?_
      refine a_iconst C dL_richestLamp_1 rfl ?_
      refine a_aload_n C dL_richestLamp_2 0 rfl ?_
      refine a_iload_n C dL_richestLamp_3 1 rfl ?_
      refine a_callC C (k := 0) (As := [.int a]) (rest := [.int 0, .ref (x_b G + 183)]) (h G) (cwV 1 C.1.2.2.2.2 (gl_up gL_richestLamp_X11_richestLamp) rfl rfl rfl (by decide +kernel) ⟨by dsimp only [x_rm]; omega, by dsimp only [x_rm]; omega⟩) x_k0 (q := (RX11, TX11, 13)) rfl rfl rfl rfl (Nat.le_of_ble_eq_true rfl) dL_richestLamp_4 ⟨Nat.le_of_ble_eq_true rfl, Nat.le_of_ble_eq_true rfl⟩ [] ⟨0, 9, 12, 124⟩ [] (hT.trans rfl) (fun z hz => absurd hz List.not_mem_nil) (by decide) (by decide) (List.mem_append_right _ (by decide +kernel)) (by decide +kernel) (fun w => ?_)
      refine a_astore_n C dL_richestLamp_12 (Nat.le_of_ble_eq_true rfl) rfl ?_
      refine a_iconst C dL_richestLamp_13 rfl ?_
      exact a_iretL C rfl hlocks hret dL_richestLamp_14 (by decide) rfl
    · exact absurd (show none = some E from hE) (fun z => by cases z)
theorem w_longestLamp (l : Launch) (G : xG) (d d1 : xd) (a : Int32) (k : Nat) (r : Int32) (h : y_C l yX11_longestLamp wsX11_longestLamp (fun G => [.ref (x_b G + 0), .int a]) ["java/util/NoSuchElementException"] k (.int r) d d1) : x_ML G (if k = 0 then x_sl G r.toInt64 else G) l yL_longestLamp (wsL_longestLamp ++ ws_cl) 11 [.ref (x_b G + 0), .int a, .ref (x_b G + 183)] d (some (.int (nI k))) d1 := by
  obtain ⟨lv, hlv, ⟨rfl, h⟩ | ⟨E, h1, hE, h⟩⟩ := h
  · rw [if_pos rfl]
    refine x_startH (hh := [(0, 9, 12, 124)]) (by decide) rfl rfl (Nat.le_of_ble_eq_true rfl) rfl ?_
    intro p e s m args below meth c C hret hlocks hT
    refine a_aload_n C dL_longestLamp_0 2 rfl ?_
    refine a_iconst C dL_longestLamp_1 rfl ?_
    refine a_aload_n C dL_longestLamp_2 0 rfl ?_
    refine a_iload_n C dL_longestLamp_3 1 rfl ?_
    refine a_callV C (k := 0) (As := [.int a]) (rest := [.int 0, .ref (x_b G + 183)]) (h G) (cwV 1 C.1.2.2.2.2 (gl_up gL_longestLamp_X11_longestLamp) rfl rfl rfl (by decide +kernel) ⟨by dsimp only [x_rm]; omega, by dsimp only [x_rm]; omega⟩) x_k0 (q := (RX11, TX11, 13)) rfl rfl rfl rfl (Nat.le_of_ble_eq_true rfl) dL_longestLamp_4 ⟨Nat.le_of_ble_eq_true rfl, Nat.le_of_ble_eq_true rfl⟩ ?_
    refine a_i2l C dL_longestLamp_7 ?_
    refine a_last C dL_longestLamp_8 ?_
    refine a_goto (C.sl _) dL_longestLamp_9 (tgt := 15) rfl ?_
    refine a_iconst (C.sl _) dL_longestLamp_15 rfl ?_
    refine a_widen (Nat.zero_le 1) (Nat.zero_le 6) ?_
    exact a_iretL (C.sl _) rfl hlocks hret dL_longestLamp_16 (by decide) rfl
  · obtain ⟨k, rfl⟩ : ∃ j, k = j + 1 := ⟨k - 1, by omega⟩
    rw [if_neg (by omega)]
    rcases k with _ | k
    · injection (show some "java/util/NoSuchElementException" = some E from hE) with hE
      subst hE
      refine x_startH (hh := [(0, 9, 12, 124)]) (by decide) rfl rfl (Nat.le_of_ble_eq_true rfl) rfl ?_
      intro p e s m args below meth c C hret hlocks hT
      refine a_aload_n C dL_longestLamp_0 2 rfl ?_
      refine a_iconst C dL_longestLamp_1 rfl ?_
      refine a_aload_n C dL_longestLamp_2 0 rfl ?_
      refine a_iload_n C dL_longestLamp_3 1 rfl ?_
      refine a_callC C (k := 0) (As := [.int a]) (rest := [.int 0, .ref (x_b G + 183)]) (h G) (cwV 1 C.1.2.2.2.2 (gl_up gL_longestLamp_X11_longestLamp) rfl rfl rfl (by decide +kernel) ⟨by dsimp only [x_rm]; omega, by dsimp only [x_rm]; omega⟩) x_k0 (q := (RX11, TX11, 13)) rfl rfl rfl rfl (Nat.le_of_ble_eq_true rfl) dL_longestLamp_4 ⟨Nat.le_of_ble_eq_true rfl, Nat.le_of_ble_eq_true rfl⟩ [] ⟨0, 9, 12, 124⟩ [] (hT.trans rfl) (fun z hz => absurd hz List.not_mem_nil) (by decide) (by decide) (List.mem_append_right _ (by decide +kernel)) (by decide +kernel) (fun w => ?_)
      refine a_astore_n C dL_longestLamp_12 (Nat.le_of_ble_eq_true rfl) rfl ?_
      refine a_iconst C dL_longestLamp_13 rfl ?_
      exact a_iretL C rfl hlocks hret dL_longestLamp_14 (by decide) rfl
    · exact absurd (show none = some E from hE) (fun z => by cases z)
theorem w_writeLamp (l : Launch) (G : xG) (d d1 : xd) (a : Int32) (k : Nat) (r : Int32) (h : y_C l yX11_writeLamp wsX11_writeLamp (fun G => [.ref (x_b G + 0), .int a]) ["java/lang/IndexOutOfBoundsException"] k (.int r) d d1) : x_ML G (if k = 0 then x_sl G r.toInt64 else G) l yL_writeLamp (wsL_writeLamp ++ ws_cl) 11 [.ref (x_b G + 0), .int a, .ref (x_b G + 183)] d (some (.int (nI k))) d1 := by
  obtain ⟨lv, hlv, ⟨rfl, h⟩ | ⟨E, h1, hE, h⟩⟩ := h
  · rw [if_pos rfl]
    refine x_startH (hh := [(0, 9, 12, 21)]) (by decide) rfl rfl (Nat.le_of_ble_eq_true rfl) rfl ?_
    intro p e s m args below meth c C hret hlocks hT
    refine a_aload_n C dL_writeLamp_0 2 rfl ?_
    refine a_iconst C dL_writeLamp_1 rfl ?_
    refine a_aload_n C dL_writeLamp_2 0 rfl ?_
    refine a_iload_n C dL_writeLamp_3 1 rfl ?_
    refine a_callV C (k := 0) (As := [.int a]) (rest := [.int 0, .ref (x_b G + 183)]) (h G) (cwV 1 C.1.2.2.2.2 (gl_up gL_writeLamp_X11_writeLamp) rfl rfl rfl (by decide +kernel) ⟨by dsimp only [x_rm]; omega, by dsimp only [x_rm]; omega⟩) x_k0 (q := (RX11, TX11, 13)) rfl rfl rfl rfl (Nat.le_of_ble_eq_true rfl) dL_writeLamp_4 ⟨Nat.le_of_ble_eq_true rfl, Nat.le_of_ble_eq_true rfl⟩ ?_
    refine a_i2l C dL_writeLamp_7 ?_
    refine a_last C dL_writeLamp_8 ?_
    refine a_goto (C.sl _) dL_writeLamp_9 (tgt := 15) rfl ?_
    refine a_iconst (C.sl _) dL_writeLamp_15 rfl ?_
    refine a_widen (Nat.zero_le 1) (Nat.zero_le 6) ?_
    exact a_iretL (C.sl _) rfl hlocks hret dL_writeLamp_16 (by decide) rfl
  · obtain ⟨k, rfl⟩ : ∃ j, k = j + 1 := ⟨k - 1, by omega⟩
    rw [if_neg (by omega)]
    rcases k with _ | k
    · injection (show some "java/lang/IndexOutOfBoundsException" = some E from hE) with hE
      subst hE
      refine x_startH (hh := [(0, 9, 12, 21)]) (by decide) rfl rfl (Nat.le_of_ble_eq_true rfl) rfl ?_
      intro p e s m args below meth c C hret hlocks hT
      refine a_aload_n C dL_writeLamp_0 2 rfl ?_
      refine a_iconst C dL_writeLamp_1 rfl ?_
      refine a_aload_n C dL_writeLamp_2 0 rfl ?_
      refine a_iload_n C dL_writeLamp_3 1 rfl ?_
      refine a_callC C (k := 0) (As := [.int a]) (rest := [.int 0, .ref (x_b G + 183)]) (h G) (cwV 1 C.1.2.2.2.2 (gl_up gL_writeLamp_X11_writeLamp) rfl rfl rfl (by decide +kernel) ⟨by dsimp only [x_rm]; omega, by dsimp only [x_rm]; omega⟩) x_k0 (q := (RX11, TX11, 13)) rfl rfl rfl rfl (Nat.le_of_ble_eq_true rfl) dL_writeLamp_4 ⟨Nat.le_of_ble_eq_true rfl, Nat.le_of_ble_eq_true rfl⟩ [] ⟨0, 9, 12, 21⟩ [] (hT.trans rfl) (fun z hz => absurd hz List.not_mem_nil) (by decide) (by decide) (List.mem_append_right _ (by decide +kernel)) (by decide +kernel) (fun w => ?_)
      refine a_astore_n C dL_writeLamp_12 (Nat.le_of_ble_eq_true rfl) rfl ?_
      refine a_iconst C dL_writeLamp_13 rfl ?_
      exact a_iretL C rfl hlocks hret dL_writeLamp_14 (by decide) rfl
    · exact absurd (show none = some E from hE) (fun z => by cases z)
theorem w_lineAt (l : Launch) (G : xG) (d d1 : xd) (a : Int32) (k : Nat) (r : Int32) (h : y_C l yX11_lineAt wsX11_lineAt (fun G => [.ref (x_b G + 0), .int a]) ["java/lang/IndexOutOfBoundsException"] k (.int r) d d1) : x_ML G (if k = 0 then x_sl G r.toInt64 else G) l yL_lineAt (wsL_lineAt ++ ws_cl) 11 [.ref (x_b G + 0), .int a, .ref (x_b G + 183)] d (some (.int (nI k))) d1 := by
  obtain ⟨lv, hlv, ⟨rfl, h⟩ | ⟨E, h1, hE, h⟩⟩ := h
  · rw [if_pos rfl]
    refine x_startH (hh := [(0, 9, 12, 21)]) (by decide) rfl rfl (Nat.le_of_ble_eq_true rfl) rfl ?_
    intro p e s m args below meth c C hret hlocks hT
    refine a_aload_n C dL_lineAt_0 2 rfl ?_
    refine a_iconst C dL_lineAt_1 rfl ?_
    refine a_aload_n C dL_lineAt_2 0 rfl ?_
    refine a_iload_n C dL_lineAt_3 1 rfl ?_
    refine a_callV C (k := 0) (As := [.int a]) (rest := [.int 0, .ref (x_b G + 183)]) (h G) (cwV 1 C.1.2.2.2.2 (gl_up gL_lineAt_X11_lineAt) rfl rfl rfl (by decide +kernel) ⟨by dsimp only [x_rm]; omega, by dsimp only [x_rm]; omega⟩) x_k0 (q := (RX11, TX11, 13)) rfl rfl rfl rfl (Nat.le_of_ble_eq_true rfl) dL_lineAt_4 ⟨Nat.le_of_ble_eq_true rfl, Nat.le_of_ble_eq_true rfl⟩ ?_
    refine a_i2l C dL_lineAt_7 ?_
    refine a_last C dL_lineAt_8 ?_
    refine a_goto (C.sl _) dL_lineAt_9 (tgt := 15) rfl ?_
    refine a_iconst (C.sl _) dL_lineAt_15 rfl ?_
    refine a_widen (Nat.zero_le 1) (Nat.zero_le 6) ?_
    exact a_iretL (C.sl _) rfl hlocks hret dL_lineAt_16 (by decide) rfl
  · obtain ⟨k, rfl⟩ : ∃ j, k = j + 1 := ⟨k - 1, by omega⟩
    rw [if_neg (by omega)]
    rcases k with _ | k
    · injection (show some "java/lang/IndexOutOfBoundsException" = some E from hE) with hE
      subst hE
      refine x_startH (hh := [(0, 9, 12, 21)]) (by decide) rfl rfl (Nat.le_of_ble_eq_true rfl) rfl ?_
      intro p e s m args below meth c C hret hlocks hT
      refine a_aload_n C dL_lineAt_0 2 rfl ?_
      refine a_iconst C dL_lineAt_1 rfl ?_
      refine a_aload_n C dL_lineAt_2 0 rfl ?_
      refine a_iload_n C dL_lineAt_3 1 rfl ?_
      refine a_callC C (k := 0) (As := [.int a]) (rest := [.int 0, .ref (x_b G + 183)]) (h G) (cwV 1 C.1.2.2.2.2 (gl_up gL_lineAt_X11_lineAt) rfl rfl rfl (by decide +kernel) ⟨by dsimp only [x_rm]; omega, by dsimp only [x_rm]; omega⟩) x_k0 (q := (RX11, TX11, 13)) rfl rfl rfl rfl (Nat.le_of_ble_eq_true rfl) dL_lineAt_4 ⟨Nat.le_of_ble_eq_true rfl, Nat.le_of_ble_eq_true rfl⟩ [] ⟨0, 9, 12, 21⟩ [] (hT.trans rfl) (fun z hz => absurd hz List.not_mem_nil) (by decide) (by decide) (List.mem_append_right _ (by decide +kernel)) (by decide +kernel) (fun w => ?_)
      refine a_astore_n C dL_lineAt_12 (Nat.le_of_ble_eq_true rfl) rfl ?_
      refine a_iconst C dL_lineAt_13 rfl ?_
      exact a_iretL C rfl hlocks hret dL_lineAt_14 (by decide) rfl
    · exact absurd (show none = some E from hE) (fun z => by cases z)
theorem w_meanOil (l : Launch) (G : xG) (d d1 : xd) (k : Nat) (r : UInt64) (h : y_C l yX11_meanOil wsX11_meanOil (fun G => [.ref (x_b G + 0)]) ["java/lang/ArithmeticException"] k (.double r) d d1) : x_ML G (if k = 0 then x_su G r else G) l yL_meanOil (wsL_meanOil ++ ws_cl) 11 [.ref (x_b G + 0), .ref (x_b G + 184)] d (some (.int (nI k))) d1 := by
  obtain ⟨lv, hlv, ⟨rfl, h⟩ | ⟨E, h1, hE, h⟩⟩ := h
  · rw [if_pos rfl]
    refine x_startH (hh := [(0, 7, 10, 143)]) (by decide) rfl rfl (Nat.le_of_ble_eq_true rfl) rfl ?_
    intro p e s m args below meth c C hret hlocks hT
    refine a_aload_n C dL_meanOil_0 1 rfl ?_
    refine a_iconst C dL_meanOil_1 rfl ?_
    refine a_aload_n C dL_meanOil_2 0 rfl ?_
    refine a_callV C (k := 0) (As := []) (rest := [.int 0, .ref (x_b G + 184)]) (h G) (cwV 0 C.1.2.2.2.2 (gl_up gL_meanOil_X11_meanOil) rfl rfl rfl (by decide +kernel) ⟨by dsimp only [x_rm]; omega, by dsimp only [x_rm]; omega⟩) x_k0 (q := (RX11, TX11, 13)) rfl rfl rfl rfl (Nat.le_of_ble_eq_true rfl) dL_meanOil_3 ⟨Nat.le_of_ble_eq_true rfl, Nat.le_of_ble_eq_true rfl⟩ ?_
    refine a_dast C dL_meanOil_6 ?_
    refine a_goto (C.su _) dL_meanOil_7 (tgt := 13) rfl ?_
    refine a_iconst (C.su _) dL_meanOil_13 rfl ?_
    refine a_widen (Nat.zero_le 1) (Nat.zero_le 6) ?_
    exact a_iretL (C.su _) rfl hlocks hret dL_meanOil_14 (by decide) rfl
  · obtain ⟨k, rfl⟩ : ∃ j, k = j + 1 := ⟨k - 1, by omega⟩
    rw [if_neg (by omega)]
    rcases k with _ | k
    · injection (show some "java/lang/ArithmeticException" = some E from hE) with hE
      subst hE
      refine x_startH (hh := [(0, 7, 10, 143)]) (by decide) rfl rfl (Nat.le_of_ble_eq_true rfl) rfl ?_
      intro p e s m args below meth c C hret hlocks hT
      refine a_aload_n C dL_meanOil_0 1 rfl ?_
      refine a_iconst C dL_meanOil_1 rfl ?_
      refine a_aload_n C dL_meanOil_2 0 rfl ?_
      refine a_callC C (k := 0) (As := []) (rest := [.int 0, .ref (x_b G + 184)]) (h G) (cwV 0 C.1.2.2.2.2 (gl_up gL_meanOil_X11_meanOil) rfl rfl rfl (by decide +kernel) ⟨by dsimp only [x_rm]; omega, by dsimp only [x_rm]; omega⟩) x_k0 (q := (RX11, TX11, 13)) rfl rfl rfl rfl (Nat.le_of_ble_eq_true rfl) dL_meanOil_3 ⟨Nat.le_of_ble_eq_true rfl, Nat.le_of_ble_eq_true rfl⟩ [] ⟨0, 7, 10, 143⟩ [] (hT.trans rfl) (fun z hz => absurd hz List.not_mem_nil) (by decide) (by decide) (List.mem_append_right _ (by decide +kernel)) (by decide +kernel) (fun w => ?_)
      refine a_astore_n C dL_meanOil_10 (Nat.le_of_ble_eq_true rfl) rfl ?_
      refine a_iconst C dL_meanOil_11 rfl ?_
      exact a_iretL C rfl hlocks hret dL_meanOil_12 (by decide) rfl
    · exact absurd (show none = some E from hE) (fun z => by cases z)
theorem w_type (l : Launch) (G : xG) (d d1 : xd) (a : Int32) (k : Nat) (r : Int32) (h : y_C l yX11_type wsX11_type (fun G => [.ref (x_b G + 0), .int a]) ["java/lang/IllegalArgumentException", "java/lang/IllegalStateException"] k (.int r) d d1) : x_ML G (if k = 0 then x_sl G r.toInt64 else G) l yL_type (wsL_type ++ ws_cl) 11 [.ref (x_b G + 0), .int a, .ref (x_b G + 183)] d (some (.int (nI k))) d1 := by
  obtain ⟨lv, hlv, ⟨rfl, h⟩ | ⟨E, h1, hE, h⟩⟩ := h
  · rw [if_pos rfl]
    refine x_startH (hh := [(0, 9, 12, 13), (0, 9, 15, 15)]) (by decide) rfl rfl (Nat.le_of_ble_eq_true rfl) rfl ?_
    intro p e s m args below meth c C hret hlocks hT
    refine a_aload_n C dL_type_0 2 rfl ?_
    refine a_iconst C dL_type_1 rfl ?_
    refine a_aload_n C dL_type_2 0 rfl ?_
    refine a_iload_n C dL_type_3 1 rfl ?_
    refine a_callV C (k := 0) (As := [.int a]) (rest := [.int 0, .ref (x_b G + 183)]) (h G) (cwV 1 C.1.2.2.2.2 (gl_up gL_type_X11_type) rfl rfl rfl (by decide +kernel) ⟨by dsimp only [x_rm]; omega, by dsimp only [x_rm]; omega⟩) x_k0 (q := (RX11, TX11, 13)) rfl rfl rfl rfl (Nat.le_of_ble_eq_true rfl) dL_type_4 ⟨Nat.le_of_ble_eq_true rfl, Nat.le_of_ble_eq_true rfl⟩ ?_
    refine a_i2l C dL_type_7 ?_
    refine a_last C dL_type_8 ?_
    refine a_goto (C.sl _) dL_type_9 (tgt := 18) rfl ?_
    refine a_iconst (C.sl _) dL_type_18 rfl ?_
    refine a_widen (Nat.zero_le 1) (Nat.zero_le 6) ?_
    exact a_iretL (C.sl _) rfl hlocks hret dL_type_19 (by decide) rfl
  · obtain ⟨k, rfl⟩ : ∃ j, k = j + 1 := ⟨k - 1, by omega⟩
    rw [if_neg (by omega)]
    rcases k with _ | _ | k
    · injection (show some "java/lang/IllegalArgumentException" = some E from hE) with hE
      subst hE
      refine x_startH (hh := [(0, 9, 12, 13), (0, 9, 15, 15)]) (by decide) rfl rfl (Nat.le_of_ble_eq_true rfl) rfl ?_
      intro p e s m args below meth c C hret hlocks hT
      refine a_aload_n C dL_type_0 2 rfl ?_
      refine a_iconst C dL_type_1 rfl ?_
      refine a_aload_n C dL_type_2 0 rfl ?_
      refine a_iload_n C dL_type_3 1 rfl ?_
      refine a_callC C (k := 0) (As := [.int a]) (rest := [.int 0, .ref (x_b G + 183)]) (h G) (cwV 1 C.1.2.2.2.2 (gl_up gL_type_X11_type) rfl rfl rfl (by decide +kernel) ⟨by dsimp only [x_rm]; omega, by dsimp only [x_rm]; omega⟩) x_k0 (q := (RX11, TX11, 13)) rfl rfl rfl rfl (Nat.le_of_ble_eq_true rfl) dL_type_4 ⟨Nat.le_of_ble_eq_true rfl, Nat.le_of_ble_eq_true rfl⟩ [] ⟨0, 9, 12, 13⟩ [⟨0, 9, 15, 15⟩] (hT.trans rfl) (fun z hz => absurd hz List.not_mem_nil) (by decide) (by decide) (List.mem_append_right _ (by decide +kernel)) (by decide +kernel) (fun w => ?_)
      refine a_astore_n C dL_type_12 (Nat.le_of_ble_eq_true rfl) rfl ?_
      refine a_iconst C dL_type_13 rfl ?_
      exact a_iretL C rfl hlocks hret dL_type_14 (by decide) rfl
    · injection (show some "java/lang/IllegalStateException" = some E from hE) with hE
      subst hE
      refine x_startH (hh := [(0, 9, 12, 13), (0, 9, 15, 15)]) (by decide) rfl rfl (Nat.le_of_ble_eq_true rfl) rfl ?_
      intro p e s m args below meth c C hret hlocks hT
      refine a_aload_n C dL_type_0 2 rfl ?_
      refine a_iconst C dL_type_1 rfl ?_
      refine a_aload_n C dL_type_2 0 rfl ?_
      refine a_iload_n C dL_type_3 1 rfl ?_
      refine a_callC C (k := 0) (As := [.int a]) (rest := [.int 0, .ref (x_b G + 183)]) (h G) (cwV 1 C.1.2.2.2.2 (gl_up gL_type_X11_type) rfl rfl rfl (by decide +kernel) ⟨by dsimp only [x_rm]; omega, by dsimp only [x_rm]; omega⟩) x_k0 (q := (RX11, TX11, 13)) rfl rfl rfl rfl (Nat.le_of_ble_eq_true rfl) dL_type_4 ⟨Nat.le_of_ble_eq_true rfl, Nat.le_of_ble_eq_true rfl⟩ [⟨0, 9, 12, 13⟩] ⟨0, 9, 15, 15⟩ [] (hT.trans rfl) (fun z hz => by
        cases List.mem_singleton.mp hz
        exact ⟨by decide, "java/lang/IllegalArgumentException", List.mem_append_right _ (by decide +kernel), by decide +kernel⟩) (by decide) (by decide) (List.mem_append_right _ (by decide +kernel)) (by decide +kernel) (fun w => ?_)
      refine a_astore_n C dL_type_15 (Nat.le_of_ble_eq_true rfl) rfl ?_
      refine a_iconst C dL_type_16 rfl ?_
      exact a_iretL C rfl hlocks hret dL_type_17 (by decide) rfl
    · exact absurd (show none = some E from hE) (fun z => by cases z)
theorem w_execute (l : Launch) (G : xG) (d d1 : xd) (k : Nat) (r : Int32) (h : y_C l yX11_execute wsX11_execute (fun G => [.ref (x_b G + 0)]) ["java/lang/IllegalArgumentException", "java/lang/IllegalStateException"] k (.int r) d d1) : x_ML G (if k = 0 then x_sl G r.toInt64 else G) l yL_execute (wsL_execute ++ ws_cl) 11 [.ref (x_b G + 0), .ref (x_b G + 183)] d (some (.int (nI k))) d1 := by
  obtain ⟨lv, hlv, ⟨rfl, h⟩ | ⟨E, h1, hE, h⟩⟩ := h
  · rw [if_pos rfl]
    refine x_startH (hh := [(0, 8, 11, 13), (0, 8, 14, 15)]) (by decide) rfl rfl (Nat.le_of_ble_eq_true rfl) rfl ?_
    intro p e s m args below meth c C hret hlocks hT
    refine a_aload_n C dL_execute_0 1 rfl ?_
    refine a_iconst C dL_execute_1 rfl ?_
    refine a_aload_n C dL_execute_2 0 rfl ?_
    refine a_callV C (k := 0) (As := []) (rest := [.int 0, .ref (x_b G + 183)]) (h G) (cwV 0 C.1.2.2.2.2 (gl_up gL_execute_X11_execute) rfl rfl rfl (by decide +kernel) ⟨by dsimp only [x_rm]; omega, by dsimp only [x_rm]; omega⟩) x_k0 (q := (RX11, TX11, 13)) rfl rfl rfl rfl (Nat.le_of_ble_eq_true rfl) dL_execute_3 ⟨Nat.le_of_ble_eq_true rfl, Nat.le_of_ble_eq_true rfl⟩ ?_
    refine a_i2l C dL_execute_6 ?_
    refine a_last C dL_execute_7 ?_
    refine a_goto (C.sl _) dL_execute_8 (tgt := 17) rfl ?_
    refine a_iconst (C.sl _) dL_execute_17 rfl ?_
    refine a_widen (Nat.zero_le 1) (Nat.zero_le 6) ?_
    exact a_iretL (C.sl _) rfl hlocks hret dL_execute_18 (by decide) rfl
  · obtain ⟨k, rfl⟩ : ∃ j, k = j + 1 := ⟨k - 1, by omega⟩
    rw [if_neg (by omega)]
    rcases k with _ | _ | k
    · injection (show some "java/lang/IllegalArgumentException" = some E from hE) with hE
      subst hE
      refine x_startH (hh := [(0, 8, 11, 13), (0, 8, 14, 15)]) (by decide) rfl rfl (Nat.le_of_ble_eq_true rfl) rfl ?_
      intro p e s m args below meth c C hret hlocks hT
      refine a_aload_n C dL_execute_0 1 rfl ?_
      refine a_iconst C dL_execute_1 rfl ?_
      refine a_aload_n C dL_execute_2 0 rfl ?_
      refine a_callC C (k := 0) (As := []) (rest := [.int 0, .ref (x_b G + 183)]) (h G) (cwV 0 C.1.2.2.2.2 (gl_up gL_execute_X11_execute) rfl rfl rfl (by decide +kernel) ⟨by dsimp only [x_rm]; omega, by dsimp only [x_rm]; omega⟩) x_k0 (q := (RX11, TX11, 13)) rfl rfl rfl rfl (Nat.le_of_ble_eq_true rfl) dL_execute_3 ⟨Nat.le_of_ble_eq_true rfl, Nat.le_of_ble_eq_true rfl⟩ [] ⟨0, 8, 11, 13⟩ [⟨0, 8, 14, 15⟩] (hT.trans rfl) (fun z hz => absurd hz List.not_mem_nil) (by decide) (by decide) (List.mem_append_right _ (by decide +kernel)) (by decide +kernel) (fun w => ?_)
      refine a_astore_n C dL_execute_11 (Nat.le_of_ble_eq_true rfl) rfl ?_
      refine a_iconst C dL_execute_12 rfl ?_
      exact a_iretL C rfl hlocks hret dL_execute_13 (by decide) rfl
    · injection (show some "java/lang/IllegalStateException" = some E from hE) with hE
      subst hE
      refine x_startH (hh := [(0, 8, 11, 13), (0, 8, 14, 15)]) (by decide) rfl rfl (Nat.le_of_ble_eq_true rfl) rfl ?_
      intro p e s m args below meth c C hret hlocks hT
      refine a_aload_n C dL_execute_0 1 rfl ?_
      refine a_iconst C dL_execute_1 rfl ?_
      refine a_aload_n C dL_execute_2 0 rfl ?_
      refine a_callC C (k := 0) (As := []) (rest := [.int 0, .ref (x_b G + 183)]) (h G) (cwV 0 C.1.2.2.2.2 (gl_up gL_execute_X11_execute) rfl rfl rfl (by decide +kernel) ⟨by dsimp only [x_rm]; omega, by dsimp only [x_rm]; omega⟩) x_k0 (q := (RX11, TX11, 13)) rfl rfl rfl rfl (Nat.le_of_ble_eq_true rfl) dL_execute_3 ⟨Nat.le_of_ble_eq_true rfl, Nat.le_of_ble_eq_true rfl⟩ [⟨0, 8, 11, 13⟩] ⟨0, 8, 14, 15⟩ [] (hT.trans rfl) (fun z hz => by
        cases List.mem_singleton.mp hz
        exact ⟨by decide, "java/lang/IllegalArgumentException", List.mem_append_right _ (by decide +kernel), by decide +kernel⟩) (by decide) (by decide) (List.mem_append_right _ (by decide +kernel)) (by decide +kernel) (fun w => ?_)
      refine a_astore_n C dL_execute_14 (Nat.le_of_ble_eq_true rfl) rfl ?_
      refine a_iconst C dL_execute_15 rfl ?_
      exact a_iretL C rfl hlocks hret dL_execute_16 (by decide) rfl
    · exact absurd (show none = some E from hE) (fun z => by cases z)
theorem w_errorPosition (l : Launch) (G : xG) (d d1 : xd) (k : Nat) (r : Int32) (h : y_C l yX11_errorPosition wsX11_errorPosition (fun G => [.ref (x_b G + 0)]) ["java/util/NoSuchElementException"] k (.int r) d d1) : x_ML G (if k = 0 then x_sl G r.toInt64 else G) l yL_errorPosition (wsL_errorPosition ++ ws_cl) 11 [.ref (x_b G + 0), .ref (x_b G + 183)] d (some (.int (nI k))) d1 := by
  obtain ⟨lv, hlv, ⟨rfl, h⟩ | ⟨E, h1, hE, h⟩⟩ := h
  · rw [if_pos rfl]
    refine x_startH (hh := [(0, 8, 11, 124)]) (by decide) rfl rfl (Nat.le_of_ble_eq_true rfl) rfl ?_
    intro p e s m args below meth c C hret hlocks hT
    refine a_aload_n C dL_errorPosition_0 1 rfl ?_
    refine a_iconst C dL_errorPosition_1 rfl ?_
    refine a_aload_n C dL_errorPosition_2 0 rfl ?_
    refine a_callV C (k := 0) (As := []) (rest := [.int 0, .ref (x_b G + 183)]) (h G) (cwV 0 C.1.2.2.2.2 (gl_up gL_errorPosition_X11_errorPosition) rfl rfl rfl (by decide +kernel) ⟨by dsimp only [x_rm]; omega, by dsimp only [x_rm]; omega⟩) x_k0 (q := (RX11, TX11, 13)) rfl rfl rfl rfl (Nat.le_of_ble_eq_true rfl) dL_errorPosition_3 ⟨Nat.le_of_ble_eq_true rfl, Nat.le_of_ble_eq_true rfl⟩ ?_
    refine a_i2l C dL_errorPosition_6 ?_
    refine a_last C dL_errorPosition_7 ?_
    refine a_goto (C.sl _) dL_errorPosition_8 (tgt := 14) rfl ?_
    refine a_iconst (C.sl _) dL_errorPosition_14 rfl ?_
    refine a_widen (Nat.zero_le 1) (Nat.zero_le 6) ?_
    exact a_iretL (C.sl _) rfl hlocks hret dL_errorPosition_15 (by decide) rfl
  · obtain ⟨k, rfl⟩ : ∃ j, k = j + 1 := ⟨k - 1, by omega⟩
    rw [if_neg (by omega)]
    rcases k with _ | k
    · injection (show some "java/util/NoSuchElementException" = some E from hE) with hE
      subst hE
      refine x_startH (hh := [(0, 8, 11, 124)]) (by decide) rfl rfl (Nat.le_of_ble_eq_true rfl) rfl ?_
      intro p e s m args below meth c C hret hlocks hT
      refine a_aload_n C dL_errorPosition_0 1 rfl ?_
      refine a_iconst C dL_errorPosition_1 rfl ?_
      refine a_aload_n C dL_errorPosition_2 0 rfl ?_
      refine a_callC C (k := 0) (As := []) (rest := [.int 0, .ref (x_b G + 183)]) (h G) (cwV 0 C.1.2.2.2.2 (gl_up gL_errorPosition_X11_errorPosition) rfl rfl rfl (by decide +kernel) ⟨by dsimp only [x_rm]; omega, by dsimp only [x_rm]; omega⟩) x_k0 (q := (RX11, TX11, 13)) rfl rfl rfl rfl (Nat.le_of_ble_eq_true rfl) dL_errorPosition_3 ⟨Nat.le_of_ble_eq_true rfl, Nat.le_of_ble_eq_true rfl⟩ [] ⟨0, 8, 11, 124⟩ [] (hT.trans rfl) (fun z hz => absurd hz List.not_mem_nil) (by decide) (by decide) (List.mem_append_right _ (by decide +kernel)) (by decide +kernel) (fun w => ?_)
      refine a_astore_n C dL_errorPosition_11 (Nat.le_of_ble_eq_true rfl) rfl ?_
      refine a_iconst C dL_errorPosition_12 rfl ?_
      exact a_iretL C rfl hlocks hret dL_errorPosition_13 (by decide) rfl
    · exact absurd (show none = some E from hE) (fun z => by cases z)
theorem w_failedCommand (l : Launch) (G : xG) (d d1 : xd) (k : Nat) (r : Int32) (h : y_C l yX11_failedCommand wsX11_failedCommand (fun G => [.ref (x_b G + 0)]) ["java/util/NoSuchElementException"] k (.int r) d d1) : x_ML G (if k = 0 then x_sl G r.toInt64 else G) l yL_failedCommand (wsL_failedCommand ++ ws_cl) 11 [.ref (x_b G + 0), .ref (x_b G + 183)] d (some (.int (nI k))) d1 := by
  obtain ⟨lv, hlv, ⟨rfl, h⟩ | ⟨E, h1, hE, h⟩⟩ := h
  · rw [if_pos rfl]
    refine x_startH (hh := [(0, 8, 11, 124)]) (by decide) rfl rfl (Nat.le_of_ble_eq_true rfl) rfl ?_
    intro p e s m args below meth c C hret hlocks hT
    refine a_aload_n C dL_failedCommand_0 1 rfl ?_
    refine a_iconst C dL_failedCommand_1 rfl ?_
    refine a_aload_n C dL_failedCommand_2 0 rfl ?_
    refine a_callV C (k := 0) (As := []) (rest := [.int 0, .ref (x_b G + 183)]) (h G) (cwV 0 C.1.2.2.2.2 (gl_up gL_failedCommand_X11_failedCommand) rfl rfl rfl (by decide +kernel) ⟨by dsimp only [x_rm]; omega, by dsimp only [x_rm]; omega⟩) x_k0 (q := (RX11, TX11, 13)) rfl rfl rfl rfl (Nat.le_of_ble_eq_true rfl) dL_failedCommand_3 ⟨Nat.le_of_ble_eq_true rfl, Nat.le_of_ble_eq_true rfl⟩ ?_
    refine a_i2l C dL_failedCommand_6 ?_
    refine a_last C dL_failedCommand_7 ?_
    refine a_goto (C.sl _) dL_failedCommand_8 (tgt := 14) rfl ?_
    refine a_iconst (C.sl _) dL_failedCommand_14 rfl ?_
    refine a_widen (Nat.zero_le 1) (Nat.zero_le 6) ?_
    exact a_iretL (C.sl _) rfl hlocks hret dL_failedCommand_15 (by decide) rfl
  · obtain ⟨k, rfl⟩ : ∃ j, k = j + 1 := ⟨k - 1, by omega⟩
    rw [if_neg (by omega)]
    rcases k with _ | k
    · injection (show some "java/util/NoSuchElementException" = some E from hE) with hE
      subst hE
      refine x_startH (hh := [(0, 8, 11, 124)]) (by decide) rfl rfl (Nat.le_of_ble_eq_true rfl) rfl ?_
      intro p e s m args below meth c C hret hlocks hT
      refine a_aload_n C dL_failedCommand_0 1 rfl ?_
      refine a_iconst C dL_failedCommand_1 rfl ?_
      refine a_aload_n C dL_failedCommand_2 0 rfl ?_
      refine a_callC C (k := 0) (As := []) (rest := [.int 0, .ref (x_b G + 183)]) (h G) (cwV 0 C.1.2.2.2.2 (gl_up gL_failedCommand_X11_failedCommand) rfl rfl rfl (by decide +kernel) ⟨by dsimp only [x_rm]; omega, by dsimp only [x_rm]; omega⟩) x_k0 (q := (RX11, TX11, 13)) rfl rfl rfl rfl (Nat.le_of_ble_eq_true rfl) dL_failedCommand_3 ⟨Nat.le_of_ble_eq_true rfl, Nat.le_of_ble_eq_true rfl⟩ [] ⟨0, 8, 11, 124⟩ [] (hT.trans rfl) (fun z hz => absurd hz List.not_mem_nil) (by decide) (by decide) (List.mem_append_right _ (by decide +kernel)) (by decide +kernel) (fun w => ?_)
      refine a_astore_n C dL_failedCommand_11 (Nat.le_of_ble_eq_true rfl) rfl ?_
      refine a_iconst C dL_failedCommand_12 rfl ?_
      exact a_iretL C rfl hlocks hret dL_failedCommand_13 (by decide) rfl
    · exact absurd (show none = some E from hE) (fun z => by cases z)
theorem w_undo (l : Launch) (G : xG) (d d1 : xd) (k : Nat) (r : Int32) (h : y_C l yX11_undo wsX11_undo (fun G => [.ref (x_b G + 0)]) ["java/lang/IllegalStateException"] k (.int r) d d1) : x_ML G (if k = 0 then x_sl G r.toInt64 else G) l yL_undo (wsL_undo ++ ws_cl) 11 [.ref (x_b G + 0), .ref (x_b G + 183)] d (some (.int (nI k))) d1 := by
  obtain ⟨lv, hlv, ⟨rfl, h⟩ | ⟨E, h1, hE, h⟩⟩ := h
  · rw [if_pos rfl]
    refine x_startH (hh := [(0, 8, 11, 15)]) (by decide) rfl rfl (Nat.le_of_ble_eq_true rfl) rfl ?_
    intro p e s m args below meth c C hret hlocks hT
    refine a_aload_n C dL_undo_0 1 rfl ?_
    refine a_iconst C dL_undo_1 rfl ?_
    refine a_aload_n C dL_undo_2 0 rfl ?_
    refine a_callV C (k := 0) (As := []) (rest := [.int 0, .ref (x_b G + 183)]) (h G) (cwV 0 C.1.2.2.2.2 (gl_up gL_undo_X11_undo) rfl rfl rfl (by decide +kernel) ⟨by dsimp only [x_rm]; omega, by dsimp only [x_rm]; omega⟩) x_k0 (q := (RX11, TX11, 13)) rfl rfl rfl rfl (Nat.le_of_ble_eq_true rfl) dL_undo_3 ⟨Nat.le_of_ble_eq_true rfl, Nat.le_of_ble_eq_true rfl⟩ ?_
    refine a_i2l C dL_undo_6 ?_
    refine a_last C dL_undo_7 ?_
    refine a_goto (C.sl _) dL_undo_8 (tgt := 14) rfl ?_
    refine a_iconst (C.sl _) dL_undo_14 rfl ?_
    refine a_widen (Nat.zero_le 1) (Nat.zero_le 6) ?_
    exact a_iretL (C.sl _) rfl hlocks hret dL_undo_15 (by decide) rfl
  · obtain ⟨k, rfl⟩ : ∃ j, k = j + 1 := ⟨k - 1, by omega⟩
    rw [if_neg (by omega)]
    rcases k with _ | k
    · injection (show some "java/lang/IllegalStateException" = some E from hE) with hE
      subst hE
      refine x_startH (hh := [(0, 8, 11, 15)]) (by decide) rfl rfl (Nat.le_of_ble_eq_true rfl) rfl ?_
      intro p e s m args below meth c C hret hlocks hT
      refine a_aload_n C dL_undo_0 1 rfl ?_
      refine a_iconst C dL_undo_1 rfl ?_
      refine a_aload_n C dL_undo_2 0 rfl ?_
      refine a_callC C (k := 0) (As := []) (rest := [.int 0, .ref (x_b G + 183)]) (h G) (cwV 0 C.1.2.2.2.2 (gl_up gL_undo_X11_undo) rfl rfl rfl (by decide +kernel) ⟨by dsimp only [x_rm]; omega, by dsimp only [x_rm]; omega⟩) x_k0 (q := (RX11, TX11, 13)) rfl rfl rfl rfl (Nat.le_of_ble_eq_true rfl) dL_undo_3 ⟨Nat.le_of_ble_eq_true rfl, Nat.le_of_ble_eq_true rfl⟩ [] ⟨0, 8, 11, 15⟩ [] (hT.trans rfl) (fun z hz => absurd hz List.not_mem_nil) (by decide) (by decide) (List.mem_append_right _ (by decide +kernel)) (by decide +kernel) (fun w => ?_)
      refine a_astore_n C dL_undo_11 (Nat.le_of_ble_eq_true rfl) rfl ?_
      refine a_iconst C dL_undo_12 rfl ?_
      exact a_iretL C rfl hlocks hret dL_undo_13 (by decide) rfl
    · exact absurd (show none = some E from hE) (fun z => by cases z)
theorem w_restore (l : Launch) (G : xG) (d d1 : xd) (k : Nat) (r : Int32) (h : y_C l yX11_restore wsX11_restore (fun G => [.ref (x_b G + 0)]) ["java/lang/IllegalStateException"] k (.int r) d d1) : x_ML G (if k = 0 then x_sl G r.toInt64 else G) l yL_restore (wsL_restore ++ ws_cl) 11 [.ref (x_b G + 0), .ref (x_b G + 183)] d (some (.int (nI k))) d1 := by
  obtain ⟨lv, hlv, ⟨rfl, h⟩ | ⟨E, h1, hE, h⟩⟩ := h
  · rw [if_pos rfl]
    refine x_startH (hh := [(0, 8, 11, 15)]) (by decide) rfl rfl (Nat.le_of_ble_eq_true rfl) rfl ?_
    intro p e s m args below meth c C hret hlocks hT
    refine a_aload_n C dL_restore_0 1 rfl ?_
    refine a_iconst C dL_restore_1 rfl ?_
    refine a_aload_n C dL_restore_2 0 rfl ?_
    refine a_callV C (k := 0) (As := []) (rest := [.int 0, .ref (x_b G + 183)]) (h G) (cwV 0 C.1.2.2.2.2 (gl_up gL_restore_X11_restore) rfl rfl rfl (by decide +kernel) ⟨by dsimp only [x_rm]; omega, by dsimp only [x_rm]; omega⟩) x_k0 (q := (RX11, TX11, 13)) rfl rfl rfl rfl (Nat.le_of_ble_eq_true rfl) dL_restore_3 ⟨Nat.le_of_ble_eq_true rfl, Nat.le_of_ble_eq_true rfl⟩ ?_
    refine a_i2l C dL_restore_6 ?_
    refine a_last C dL_restore_7 ?_
    refine a_goto (C.sl _) dL_restore_8 (tgt := 14) rfl ?_
    refine a_iconst (C.sl _) dL_restore_14 rfl ?_
    refine a_widen (Nat.zero_le 1) (Nat.zero_le 6) ?_
    exact a_iretL (C.sl _) rfl hlocks hret dL_restore_15 (by decide) rfl
  · obtain ⟨k, rfl⟩ : ∃ j, k = j + 1 := ⟨k - 1, by omega⟩
    rw [if_neg (by omega)]
    rcases k with _ | k
    · injection (show some "java/lang/IllegalStateException" = some E from hE) with hE
      subst hE
      refine x_startH (hh := [(0, 8, 11, 15)]) (by decide) rfl rfl (Nat.le_of_ble_eq_true rfl) rfl ?_
      intro p e s m args below meth c C hret hlocks hT
      refine a_aload_n C dL_restore_0 1 rfl ?_
      refine a_iconst C dL_restore_1 rfl ?_
      refine a_aload_n C dL_restore_2 0 rfl ?_
      refine a_callC C (k := 0) (As := []) (rest := [.int 0, .ref (x_b G + 183)]) (h G) (cwV 0 C.1.2.2.2.2 (gl_up gL_restore_X11_restore) rfl rfl rfl (by decide +kernel) ⟨by dsimp only [x_rm]; omega, by dsimp only [x_rm]; omega⟩) x_k0 (q := (RX11, TX11, 13)) rfl rfl rfl rfl (Nat.le_of_ble_eq_true rfl) dL_restore_3 ⟨Nat.le_of_ble_eq_true rfl, Nat.le_of_ble_eq_true rfl⟩ [] ⟨0, 8, 11, 15⟩ [] (hT.trans rfl) (fun z hz => absurd hz List.not_mem_nil) (by decide) (by decide) (List.mem_append_right _ (by decide +kernel)) (by decide +kernel) (fun w => ?_)
      refine a_astore_n C dL_restore_11 (Nat.le_of_ble_eq_true rfl) rfl ?_
      refine a_iconst C dL_restore_12 rfl ?_
      exact a_iretL C rfl hlocks hret dL_restore_13 (by decide) rfl
    · exact absurd (show none = some E from hE) (fun z => by cases z)
