-- STAND-INS
theorem n : True := trivial
theorem i : True := trivial
theorem k : True := trivial
theorem q : True := trivial
theorem u : True := trivial
theorem v : True := trivial
theorem w : True := trivial
theorem j : True := trivial
theorem o : True := trivial
theorem a : True := trivial
theorem b : True := trivial
theorem y : True := trivial
theorem z : True := trivial
theorem r : True := trivial
theorem t : True := trivial
theorem f : True := trivial
theorem g : True := trivial
theorem o2 : True := trivial
theorem a2 : True := trivial
theorem hlt : True := trivial
theorem hltk : True := trivial
theorem hlt3 : True := trivial
theorem hlt4 : True := trivial
theorem hn : True := trivial
theorem hq : True := trivial
theorem hm : True := trivial
theorem hi : True := trivial
theorem hi2 : True := trivial
theorem hi3 : True := trivial
theorem hk : True := trivial
theorem hj : True := trivial
theorem hb : True := trivial
theorem hs : True := trivial
theorem hw : True := trivial
theorem hx : True := trivial
theorem hz : True := trivial
theorem hv : True := trivial
theorem hr : True := trivial
theorem hc : True := trivial
theorem hu : True := trivial
theorem hp : True := trivial
theorem hl : True := trivial
theorem hh : True := trivial
theorem e : True := trivial
theorem e9 : True := trivial
theorem sh : True := trivial
theorem a0 : True := trivial
theorem c9 : True := trivial
theorem k9 : True := trivial
theorem m9 : True := trivial
theorem mm : True := trivial
theorem ha : True := trivial
theorem ho : True := trivial
theorem hS : True := trivial
theorem ha0 : True := trivial
theorem hs9 : True := trivial
theorem hk0 : True := trivial
theorem hk1 : True := trivial
theorem hk9 : True := trivial
theorem hap : True := trivial
theorem hoo : True := trivial
theorem qh : True := trivial
theorem ex : True := trivial
theorem ih : True := trivial
theorem ihk : True := trivial
theorem ih1 : True := trivial
theorem ih2 : True := trivial
theorem ih3 : True := trivial
theorem ih4 : True := trivial
theorem ihj : True := trivial
theorem st : True := trivial
theorem lst : True := trivial
theorem args0 : True := trivial
theorem hcn : True := trivial
theorem hcir : True := trivial
theorem q8 : True := trivial
theorem z8 : True := trivial
theorem h0 : True := trivial
theorem h1 : True := trivial
theorem h2 : True := trivial
theorem h3 : True := trivial
theorem h4 : True := trivial
theorem h5 : True := trivial
theorem h7 : True := trivial
theorem h10 : True := trivial
theorem h11 : True := trivial
theorem h12 : True := trivial
theorem h13 : True := trivial
theorem h14 : True := trivial
theorem h15 : True := trivial
theorem h16 : True := trivial
theorem h17 : True := trivial
theorem h18 : True := trivial
theorem h19 : True := trivial
theorem h20 : True := trivial
theorem h21 : True := trivial
theorem h22 : True := trivial
theorem h23 : True := trivial
theorem h24 : True := trivial
theorem h25 : True := trivial
theorem h26 : True := trivial
theorem h27 : True := trivial
theorem h28 : True := trivial
theorem h29 : True := trivial
theorem h30 : True := trivial
theorem h31 : True := trivial
theorem h32 : True := trivial
theorem h33 : True := trivial
theorem h34 : True := trivial
theorem h35 : True := trivial
theorem h36 : True := trivial
theorem h37 : True := trivial
theorem h38 : True := trivial
theorem h39 : True := trivial
theorem h40 : True := trivial
theorem h41 : True := trivial
theorem h42 : True := trivial
theorem h43 : True := trivial
theorem h44 : True := trivial
theorem h45 : True := trivial
theorem h46 : True := trivial
theorem h47 : True := trivial
theorem h48 : True := trivial
theorem h49 : True := trivial
theorem h50 : True := trivial
theorem h51 : True := trivial
theorem h52 : True := trivial
theorem h53 : True := trivial
theorem h54 : True := trivial
theorem h55 : True := trivial
theorem h56 : True := trivial
theorem h57 : True := trivial
theorem h58 : True := trivial
theorem h59 : True := trivial
theorem h60 : True := trivial
theorem h61 : True := trivial
theorem h62 : True := trivial
theorem h63 : True := trivial
theorem h64 : True := trivial
theorem h65 : True := trivial
theorem h66 : True := trivial
theorem h67 : True := trivial
theorem h68 : True := trivial
theorem h69 : True := trivial
theorem h70 : True := trivial
theorem h71 : True := trivial
theorem h72 : True := trivial
theorem h73 : True := trivial
theorem h74 : True := trivial
theorem h75 : True := trivial
theorem h76 : True := trivial
theorem h77 : True := trivial
theorem h78 : True := trivial
theorem h79 : True := trivial
theorem h80 : True := trivial
theorem h81 : True := trivial
theorem h82 : True := trivial
theorem h83 : True := trivial
theorem h84 : True := trivial
theorem h85 : True := trivial
theorem h86 : True := trivial
theorem h87 : True := trivial
theorem h88 : True := trivial
theorem h89 : True := trivial
theorem h90 : True := trivial
theorem h91 : True := trivial
theorem h92 : True := trivial
theorem h93 : True := trivial
theorem h94 : True := trivial
theorem h95 : True := trivial
theorem h96 : True := trivial
theorem h97 : True := trivial
theorem h98 : True := trivial
theorem h99 : True := trivial
theorem h100 : True := trivial
theorem h101 : True := trivial
theorem h102 : True := trivial
theorem h103 : True := trivial
theorem h104 : True := trivial
theorem h105 : True := trivial
theorem h106 : True := trivial
theorem h107 : True := trivial
theorem h108 : True := trivial
theorem h109 : True := trivial
theorem h110 : True := trivial
theorem h111 : True := trivial
theorem h112 : True := trivial
theorem h113 : True := trivial
theorem h114 : True := trivial
theorem h115 : True := trivial
theorem h116 : True := trivial
theorem h117 : True := trivial
theorem h118 : True := trivial
theorem h119 : True := trivial
theorem h120 : True := trivial
theorem h121 : True := trivial
theorem h122 : True := trivial
theorem h123 : True := trivial
theorem h124 : True := trivial
theorem h125 : True := trivial
theorem h126 : True := trivial
theorem h127 : True := trivial
theorem h128 : True := trivial
theorem h129 : True := trivial
theorem h130 : True := trivial
theorem h131 : True := trivial
theorem h132 : True := trivial
theorem h133 : True := trivial
theorem h134 : True := trivial
theorem h135 : True := trivial
theorem h136 : True := trivial
theorem h137 : True := trivial
theorem h138 : True := trivial
theorem h139 : True := trivial
theorem h140 : True := trivial
theorem h141 : True := trivial
theorem h142 : True := trivial
theorem h143 : True := trivial
theorem h144 : True := trivial
theorem h145 : True := trivial
theorem h146 : True := trivial
theorem h147 : True := trivial
theorem h148 : True := trivial
theorem h149 : True := trivial
theorem h150 : True := trivial
theorem h151 : True := trivial
theorem h152 : True := trivial
theorem h153 : True := trivial
theorem h154 : True := trivial
theorem h155 : True := trivial
theorem h156 : True := trivial
theorem h157 : True := trivial
theorem h158 : True := trivial
theorem h159 : True := trivial
theorem h160 : True := trivial
theorem h161 : True := trivial
theorem h162 : True := trivial
theorem h163 : True := trivial
theorem h164 : True := trivial
theorem h165 : True := trivial
theorem h166 : True := trivial
theorem h167 : True := trivial
theorem h168 : True := trivial
theorem h169 : True := trivial
theorem h170 : True := trivial
theorem h171 : True := trivial
theorem h172 : True := trivial
theorem h173 : True := trivial
theorem h174 : True := trivial
theorem h175 : True := trivial
theorem h176 : True := trivial
theorem h177 : True := trivial
theorem h178 : True := trivial
theorem h179 : True := trivial
theorem h180 : True := trivial
theorem h181 : True := trivial
theorem h182 : True := trivial
theorem h183 : True := trivial
theorem h184 : True := trivial
theorem h185 : True := trivial
theorem h186 : True := trivial
theorem h187 : True := trivial
theorem h188 : True := trivial
theorem h189 : True := trivial
theorem h190 : True := trivial
theorem h191 : True := trivial
theorem h192 : True := trivial
theorem h193 : True := trivial
theorem h194 : True := trivial
theorem h195 : True := trivial
theorem h196 : True := trivial
theorem h197 : True := trivial
theorem h198 : True := trivial
theorem h199 : True := trivial
theorem L0 : True := trivial
theorem L1 : True := trivial
theorem L2 : True := trivial
theorem L3 : True := trivial
theorem L4 : True := trivial
theorem L5 : True := trivial
theorem L6 : True := trivial
theorem L7 : True := trivial
theorem L8 : True := trivial
theorem L9 : True := trivial
theorem L10 : True := trivial
theorem L11 : True := trivial
theorem L12 : True := trivial
theorem L13 : True := trivial
theorem L14 : True := trivial
theorem L15 : True := trivial
theorem L16 : True := trivial
theorem L17 : True := trivial
theorem L18 : True := trivial
theorem L19 : True := trivial
theorem L20 : True := trivial
theorem L21 : True := trivial
theorem L22 : True := trivial
theorem L23 : True := trivial
theorem L24 : True := trivial
theorem L25 : True := trivial
theorem L26 : True := trivial
theorem L27 : True := trivial
theorem L28 : True := trivial
theorem L29 : True := trivial
theorem L30 : True := trivial
theorem L31 : True := trivial
theorem L32 : True := trivial
theorem L33 : True := trivial
theorem L34 : True := trivial
theorem L35 : True := trivial
theorem L36 : True := trivial
theorem L37 : True := trivial
theorem L38 : True := trivial
theorem L39 : True := trivial
theorem L40 : True := trivial
theorem L41 : True := trivial
theorem L42 : True := trivial
theorem L43 : True := trivial
theorem L44 : True := trivial
theorem L45 : True := trivial
theorem L46 : True := trivial
theorem L47 : True := trivial
theorem L48 : True := trivial
theorem L49 : True := trivial
theorem L50 : True := trivial
theorem L51 : True := trivial
theorem L52 : True := trivial
theorem L53 : True := trivial
theorem L54 : True := trivial
theorem L55 : True := trivial
theorem L56 : True := trivial
theorem L57 : True := trivial
theorem L58 : True := trivial
theorem L59 : True := trivial
theorem L60 : True := trivial
theorem L61 : True := trivial
theorem L62 : True := trivial
theorem L63 : True := trivial
theorem L64 : True := trivial
theorem L65 : True := trivial
theorem L66 : True := trivial
theorem L67 : True := trivial
theorem L68 : True := trivial
theorem L69 : True := trivial
theorem L70 : True := trivial
theorem L71 : True := trivial
theorem L72 : True := trivial
theorem L73 : True := trivial
theorem L74 : True := trivial
theorem L75 : True := trivial
theorem L76 : True := trivial
theorem L77 : True := trivial
theorem L78 : True := trivial
theorem L79 : True := trivial
theorem L80 : True := trivial
theorem L81 : True := trivial
theorem L82 : True := trivial
theorem L83 : True := trivial
theorem L84 : True := trivial
theorem L85 : True := trivial
theorem L86 : True := trivial
theorem L87 : True := trivial
theorem L88 : True := trivial
theorem L89 : True := trivial
theorem L90 : True := trivial
theorem L91 : True := trivial
theorem L92 : True := trivial
theorem L93 : True := trivial
theorem L94 : True := trivial
theorem L95 : True := trivial
theorem L96 : True := trivial
theorem L97 : True := trivial
theorem L98 : True := trivial
theorem L99 : True := trivial
theorem L100 : True := trivial
theorem L101 : True := trivial
theorem L102 : True := trivial
theorem L103 : True := trivial
theorem L104 : True := trivial
theorem L105 : True := trivial
theorem L106 : True := trivial
theorem L107 : True := trivial
theorem L108 : True := trivial
theorem L109 : True := trivial
theorem L110 : True := trivial
theorem L111 : True := trivial
theorem L112 : True := trivial
theorem L113 : True := trivial
theorem L114 : True := trivial
theorem L115 : True := trivial
theorem L116 : True := trivial
theorem L117 : True := trivial
theorem L118 : True := trivial
theorem L119 : True := trivial
theorem L120 : True := trivial
theorem L121 : True := trivial
theorem L122 : True := trivial
theorem L123 : True := trivial
theorem L124 : True := trivial
theorem L125 : True := trivial
theorem L126 : True := trivial
theorem L127 : True := trivial
theorem L128 : True := trivial
theorem L129 : True := trivial
theorem L130 : True := trivial
theorem L131 : True := trivial
theorem L132 : True := trivial
theorem L133 : True := trivial
theorem L134 : True := trivial
theorem L135 : True := trivial
theorem L136 : True := trivial
theorem L137 : True := trivial
theorem L138 : True := trivial
theorem L139 : True := trivial
theorem L140 : True := trivial
theorem L141 : True := trivial
theorem L142 : True := trivial
theorem L143 : True := trivial
theorem L144 : True := trivial
theorem L145 : True := trivial
theorem L146 : True := trivial
theorem L147 : True := trivial
theorem L148 : True := trivial
theorem L149 : True := trivial
theorem L150 : True := trivial
theorem L151 : True := trivial
theorem L152 : True := trivial
theorem L153 : True := trivial
theorem L154 : True := trivial
theorem L155 : True := trivial
theorem L156 : True := trivial
theorem L157 : True := trivial
theorem L158 : True := trivial
theorem L159 : True := trivial
theorem L160 : True := trivial
theorem L161 : True := trivial
theorem L162 : True := trivial
theorem L163 : True := trivial
theorem L164 : True := trivial
theorem L165 : True := trivial
theorem L166 : True := trivial
theorem L167 : True := trivial
theorem L168 : True := trivial
theorem L169 : True := trivial
theorem L170 : True := trivial
theorem L171 : True := trivial
theorem L172 : True := trivial
theorem L173 : True := trivial
theorem L174 : True := trivial
theorem L175 : True := trivial
theorem L176 : True := trivial
theorem L177 : True := trivial
theorem L178 : True := trivial
theorem L179 : True := trivial
theorem L180 : True := trivial
theorem L181 : True := trivial
theorem L182 : True := trivial
theorem L183 : True := trivial
theorem L184 : True := trivial
theorem L185 : True := trivial
theorem L186 : True := trivial
theorem L187 : True := trivial
theorem L188 : True := trivial
theorem L189 : True := trivial
theorem L190 : True := trivial
theorem L191 : True := trivial
theorem L192 : True := trivial
theorem L193 : True := trivial
theorem L194 : True := trivial
theorem L195 : True := trivial
theorem L196 : True := trivial
theorem L197 : True := trivial
theorem L198 : True := trivial
theorem L199 : True := trivial
-- STAND-INS
/-! the answer cells: a long, a double -/
def x_sl (G : xG) (v : Int64) : xG := (G.1, G.2.1, G.2.2.1, G.2.2.2.1, vp_updL G.2.2.2.2.1 0 v, G.2.2.2.2.2)
def x_su (G : xG) (v : UInt64) : xG := (G.1, G.2.1, G.2.2.1, G.2.2.2.1, G.2.2.2.2.1, vf_upd G.2.2.2.2.2 0 v)
theorem x_sl_0 (G : xG) (v : Int64) : x_l (x_sl G v) 0 = v := by simp [x_sl, x_l, vp_updL]
theorem x_su_0 (G : xG) (v : UInt64) : x_u (x_su G v) 0 = v := by simp [x_su, x_u, vf_upd]
def x_nt (t : Nat) (sh : xS) : Bool := match sh with
  | .inl _ => true
  | .inr q => decide (q.1 ≠ t ∧ q.1 < 8)
theorem x_cell_sl (G : xG) (v : Int64) (f : Nat → Int32) (sh : xS) (h : x_nt 6 sh = true) : x_cell (x_sl G v) f sh = x_cell G f sh := by
  rcases sh with q | ⟨t, n⟩
  · rfl
  · have h := of_decide_eq_true h
    simp only at h
    obtain ⟨h6, h8⟩ := h
    have ht : t = 0 ∨ t = 1 ∨ t = 2 ∨ t = 3 ∨ t = 4 ∨ t = 5 ∨ t = 7 := by omega
    rcases ht with rfl | rfl | rfl | rfl | rfl | rfl | rfl <;> rfl
theorem x_cell_su (G : xG) (v : UInt64) (f : Nat → Int32) (sh : xS) (h : x_nt 7 sh = true) : x_cell (x_su G v) f sh = x_cell G f sh := by
  rcases sh with q | ⟨t, n⟩
  · rfl
  · have h := of_decide_eq_true h
    simp only at h
    obtain ⟨h6, h8⟩ := h
    have ht : t = 0 ∨ t = 1 ∨ t = 2 ∨ t = 3 ∨ t = 4 ∨ t = 5 ∨ t = 6 := by omega
    rcases ht with rfl | rfl | rfl | rfl | rfl | rfl | rfl <;> rfl
theorem x_sh_len : x_sh.length = 185 := by decide +kernel
theorem x_sh_6 : ∀ k, k < 185 → k = 183 ∨ (x_sh[k]?).map (x_nt 6) = some true := by decide +kernel
theorem x_sh_7 : ∀ k, k < 185 → k = 184 ∨ (x_sh[k]?).map (x_nt 7) = some true := by decide +kernel
theorem x_ws_sl (G : xG) (d : xd) (v : Int64) : (x_ws G d).set 183 (x_b G + 183, .inl (x_c G 6, 1, .inr (.inl (vp_updL (x_l G) 0 v)))) = x_ws (x_sl G v) d := by
  refine List.ext_getElem? fun i => ?_
  by_cases hi : i = 183
  · subst hi
    have hl : 183 < (x_ws G d).length := (List.getElem?_eq_some_iff.mp (x_get G d x_k183)).1
    rw [List.getElem?_set_self hl, x_get (x_sl G v) d x_k183]
    rfl
  · rw [List.getElem?_set_ne (Ne.symm hi)]
    rcases Nat.lt_or_ge i 185 with h | h
    · rcases x_sh_6 i h with h6 | h6
      · exact absurd h6 hi
      · obtain ⟨sh, hs, ht⟩ := Option.map_eq_some_iff.mp h6
        rw [x_get G d hs, x_get (x_sl G v) d hs, x_cell_sl G v (d i) sh ht]
        rfl
    · have e : x_sh[i]? = none := List.getElem?_eq_none (by rw [x_sh_len]; exact h)
      simp only [x_ws, List.getElem?_mapIdx, e]
      rfl
theorem x_ws_su (G : xG) (d : xd) (v : UInt64) : (x_ws G d).set 184 (x_b G + 184, .inl (x_c G 7, 1, .inr (.inr (.inr (.inl (vf_upd (x_u G) 0 v)))))) = x_ws (x_su G v) d := by
  refine List.ext_getElem? fun i => ?_
  by_cases hi : i = 184
  · subst hi
    have hl : 184 < (x_ws G d).length := (List.getElem?_eq_some_iff.mp (x_get G d x_k184)).1
    rw [List.getElem?_set_self hl, x_get (x_su G v) d x_k184]
    rfl
  · rw [List.getElem?_set_ne (Ne.symm hi)]
    rcases Nat.lt_or_ge i 185 with h | h
    · rcases x_sh_7 i h with h6 | h6
      · exact absurd h6 hi
      · obtain ⟨sh, hs, ht⟩ := Option.map_eq_some_iff.mp h6
        rw [x_get G d hs, x_get (x_su G v) d hs, x_cell_su G v (d i) sh ht]
        rfl
    · have e : x_sh[i]? = none := List.getElem?_eq_none (by rw [x_sh_len]; exact h)
      simp only [x_ws, List.getElem?_mapIdx, e]
      rfl
/-- a wrapper: it returns; the answer cells may change; it may make one exception -/
def x_ML (G G2 : xG) (l : Launch) (y : MethodName) (ws : List Cond) (lv : Nat) (av : List Value) (d : xd) (r : Option Value) (d' : xd) : Prop := Met l y ws (x_rm lv 1 6) (va_Pc av (x_U G d)) (x_Q G2 r d') 1 6 (x_A G)
def x_lz (r : Int32) : Int64 := if r = 0 then 0 else 1
theorem x_vp0 : vp_in 0 1 := by
  have h := x_vp (i := 0) (n := 1) (by omega) (by omega)
  rw [nI_0] at h
  exact h
section XLROWS
variable {G : xG} {p : Program} {l : Launch} {e : Env} {R : Room} {s : State} {m : MethodId} {args : Array Value} {below : List Frame} {meth : Method} {c : Code} {nL cells slots : Nat} {Q : State → Prop} {cc : ByteArray} {Ts : List Cond} {own : String} {pc : Nat} {lst lst2 : List (Nat × Value)} {rest : List Value} {d : xd}
theorem Cx.sl (C : Cx G p s m args c cc Ts own nL) (v : Int64) : Cx (x_sl G v) p s m args c cc Ts own nL := C
theorem Cx.su (C : Cx G p s m args c cc Ts own nL) (v : UInt64) : Cx (x_su G v) p s m args c cc Ts own nL := C
theorem a_i2l (C : Cx G p s m args c cc Ts own nL) {x : Int32} (hdg : decode cc pc = .ok (.i2l, 1)) (k : Ab G p l e R s m args below meth c nL cells slots Q (pc + 1) lst (.long x.toInt64 :: rest) d) : Ab G p l e R s m args below meth c nL cells slots Q pc lst (.int x :: rest) d := fun H locs ls hP hS hl => lv_i2l C.1.1 C.1.2.1 hdg rfl (k H locs ls hP hS hl)
theorem a_lconst (C : Cx G p s m args c cc Ts own nL) {n : Fin 2} {v : Int64} (hdg : decode cc pc = .ok (.lconst n, 1)) (hv : Int64.ofNat (n : Nat) = v) (k : Ab G p l e R s m args below meth c nL cells slots Q (pc + 1) lst (.long v :: rest) d) : Ab G p l e R s m args below meth c nL cells slots Q pc lst rest d := fun H locs ls hP hS hl => lv_lconst C.1.1 C.1.2.1 hdg hv (k H locs ls hP hS hl)
theorem a_last (C : Cx G p s m args c cc Ts own nL) {x : Int64} (hdg : decode cc pc = .ok (.lastore, 1)) (kk : Ab (x_sl G x) p l e R s m args below meth c nL cells slots Q (pc + 1) lst rest d) : Ab G p l e R s m args below meth c nL cells slots Q pc lst (.long x :: .int 0 :: .ref (x_b G + 183) :: rest) d :=
  fun H locs ls hP hS hl => va_last (D := x_D G) (f := x_l G) C.1.1 C.1.2.1 C.2.1 hP (x_Dok G d) hS 183 6 (x_get G d x_k183) rfl x_vp0 hdg (fun H1 locs1 hP1 _ hS1 => kk H1 locs1 ls (by
    rw [show (0 : Int32).toNatClampNeg = 0 from by decide, x_ws_sl] at hP1
    exact hP1) hS1 hl)
theorem a_dast (C : Cx G p s m args c cc Ts own nL) {x : UInt64} (hdg : decode cc pc = .ok (.dastore, 1)) (kk : Ab (x_su G x) p l e R s m args below meth c nL cells slots Q (pc + 1) lst rest d) : Ab G p l e R s m args below meth c nL cells slots Q pc lst (.double x :: .int 0 :: .ref (x_b G + 184) :: rest) d :=
  fun H locs ls hP hS hl => va_dast (D := x_D G) (f := x_u G) C.1.1 C.1.2.1 C.2.1 hP (x_Dok G d) hS 184 7 (x_get G d x_k184) rfl x_vp0 hdg (fun H1 locs1 hP1 _ hS1 => kk H1 locs1 ls (by
    rw [show (0 : Int32).toNatClampNeg = 0 from by decide, x_ws_su] at hP1
    exact hP1) hS1 hl)
theorem a_lald (C : Cx G p s m args c cc Ts own nL) (hdg : decode cc pc = .ok (.laload, 1)) (kk : Ab G p l e R s m args below meth c nL cells slots Q (pc + 1) lst (.long (x_l G 0) :: rest) d) : Ab G p l e R s m args below meth c nL cells slots Q pc lst (.int 0 :: .ref (x_b G + 183) :: rest) d :=
  fun H locs ls hP hS hl => va_lald (D := x_D G) (f := x_l G) C.1.1 C.1.2.1 C.2.1 hP 183 6 (x_get G d x_k183) rfl x_vp0 hdg (kk H locs ls hP hS hl)
theorem a_dald (C : Cx G p s m args c cc Ts own nL) (hdg : decode cc pc = .ok (.daload, 1)) (kk : Ab G p l e R s m args below meth c nL cells slots Q (pc + 1) lst (.double (x_u G 0) :: rest) d) : Ab G p l e R s m args below meth c nL cells slots Q pc lst (.int 0 :: .ref (x_b G + 184) :: rest) d :=
  fun H locs ls hP hS hl => va_dald (D := x_D G) (f := x_u G) C.1.1 C.1.2.1 C.2.1 hP 184 7 (x_get G d x_k184) rfl x_vp0 hdg (kk H locs ls hP hS hl)
/-- a wrapper's end -/
theorem a_iretL {G2 : xG} (C : Cx G2 p s m args c cc Ts own nL) (hA : x_b G2 = x_b G) (hlocks : meth.locks = false) (hr : meth.sig.returnType = some .int) {v v2 : Int32} {d2 : xd} (hdg : decode cc pc = .ok (.ireturn, 1)) (hv : v = v2) (hd : d = d2) : Ab G2 p l e R s m args below meth c nL cells slots (MQ below (x_Q G2 (some (.int v2)) d2) args s cells slots (x_A G)) pc lst [.int v] d := fun H locs ls hP hS hl => by
  subst hv; subst hd
  have hA2 : x_A G = x_A G2 := by unfold x_A; rw [hA]
  rw [hA2]
  exact W.iret C.1.1 C.1.2.1 hr (x_end hP hS) hS.2.2 hdg hlocks
theorem x_startH {y : MethodName} {ws ws2 : List Cond} {lv maxL : Nat} {ret : Option FieldType} {hh : List (Nat × Nat × Nat × Nat)} {av : List Value} {r : Option Value} {d2 : xd} {G2 : xG} (hy : plainName y.cls = true) (hw : ws = Cond.codeWith y cc maxL ret hh :: ws2) (ho : y.cls = own) (hlen : (lg_sl av).length ≤ maxL) (hlst : lv_args 0 av = lst)
    (body : ∀ (p : Program) (e : Env) (s : State) (m : MethodId) (args : Array Value) (below : List Frame) (meth : Method) (c : Code), Cx G p s m args c cc ws own maxL → meth.sig.returnType = ret → meth.locks = false → c.exceptionTable.toList = tableOf hh → Ab G p l e (x_rm lv 1 6) s m args below meth c maxL 0 0 (MQ below (x_Q G2 r d2) args s 1 6 (x_A G)) 0 lst [] d) : x_ML G G2 l y ws lv av d r d2 := by
  unfold x_ML Met
  refine MetFree.of_bodyS (code := cc) (maxLocals := maxL) (ret := ret) hy ?_ ?_
  · intro args s m h hn
    obtain ⟨m9, meth, c, hn9, h1, h2, h3, h4, -, h5, h6, -⟩ := Cond.codeWith_spec (atoms_spec (ws := ws) h _ (by rw [hw]; exact List.mem_cons_self))
    cases hn.symm.trans hn9
    exact ⟨meth, c, h1, h2, h3, h4, h5, h6⟩
  · intro p e s m args below meth c s₁ B hml hv _
    have hh0 : s₁.heap = s.heap := by rw [B.state]; rfl
    have hT := vx_table (x := y) B (atoms_spec (ws := ws) B.pre _ (by rw [hw]; exact List.mem_cons_self))
    obtain ⟨rfl, hP, hK⟩ := hv
    have hl := lv_entry av (n := maxL) hlen
    rw [hlst] at hl
    have K : W p l e (x_rm lv 1 6) s m av.toArray below meth c s.heap [] 0 0 (MQ below (x_Q G2 r d2) av.toArray s 1 6 (x_A G)) (entryFrame m av.toArray maxL) := by
      rw [lg_entry_eq]
      exact body p e s m _ below meth c ⟨⟨B.exec, B.bytes, hml, ho ▸ findClass_of_methodNamed B.named, atoms_spec (ws := ws) B.pre⟩, hK⟩ B.returns B.notSynchronized hT s.heap [] _ hP va_S.rf hl
    obtain ⟨t, a1, o, b1, b2, b3⟩ := K s₁ hh0 (Stand.of_body B)
    exact ⟨t, o, a1, b1, b2, b3⟩
/-- a call that throws, caught here -/
theorem a_callC (C : Cx G p s m args c cc Ts own nL) {y : MethodName} {Cn : String} {bytes : ByteArray} {maxL n index lv k ci : Nat} {ret : Option FieldType} {ws : List Cond} {As : List Value} {E : String} {d2 : xd} {fl : List (Option Nat)} {q : vw_C}
    (hM : x_X G l y ws lv (.ref (x_b G + k) :: As) d E d2) (cw : CallW R s args own Cn index y bytes maxL ret ws (x_rm lv 1 6) 1 6 n) (hk : x_sh[k]? = some (.inl (ci, fl))) (hc : vwCl[ci]? = some q) (hq : q.1 = Cn) (hn : As.length = n) {st : List Value} (hst : st = As.reverse ++ .ref (x_b G + k) :: rest) (hro : (rest.map fun v => v.category).sum ≤ 8) (hdg : decode cc pc = .ok (.invokevirtual index, 3)) (hf : cells + 1 ≤ R.cells ∧ slots + 6 ≤ R.slots)
    (pre : List ExceptionTableEntry) (x : ExceptionTableEntry) (suf : List ExceptionTableEntry) (hsplit : c.exceptionTable.toList = pre ++ x :: suf)
    (hpass : ∀ z ∈ pre, z.catchType ≠ 0 ∧ ∃ nm : String, Cond.classLink own z.catchType nm ∈ Ts ∧ (E, nm) ∈ x_ncs) (hx : covers x pc = true) (h0 : x.catchType ≠ 0) (hlink : Cond.classLink own x.catchType E ∈ Ts) (hcast : E ∈ x_cs)
    (kk : ∀ w : Nat, Ab G p l e R s m args below meth c nL (cells + 1) (slots + 6) Q x.handlerPc lst [.ref w] d2) : Ab G p l e R s m args below meth c nL cells slots Q pc lst st d := by
  intro H locs ls hP hS hl
  subst hst
  subst hq
  have hr := vx_runV (locs := locs) (meth := meth) (below := below) (e := e) (As := As) (rest := rest) (g := F0 m pc ls (As.reverse ++ .ref (x_b G + k) :: rest)) C.1 hM cw ⟨x_blind G _ d, va_recv C.2.1 hP hc (x_get G d hk), x_pre C.2 hP hS⟩ rfl hn hl.1 rfl (lv_room hro) hdg hf
  intro T hT0 X
  rcases hr T hT0 X with ⟨v, st₀, t, T', L, h0, X', hL, e1, e2, hf, st⟩ | ⟨q, st₀, t, T', L, E2, ce, h00, X', hL, e1, e2, ⟨hE, hu, hz, hk⟩, hcell, hvm, hcl, st⟩
  · exact hf.elim
  · subst hE
    rw [h00] at hz hk
    have hS1 : va_S (x_A G) s.heap T'.heap (locs ++ L) := ⟨Nat.le_trans hS.1 (by rw [e1]; exact hz), fun q h1 h2 => by rw [e1, hk q (Nat.lt_of_lt_of_le h1 hS.1) h2]; exact hS.2.1 q h1 h2, fun q hq => by
      rcases List.mem_append.mp hq with h | h
      · exact hS.2.2 q h
      · exact hL q h⟩
    obtain ⟨-, -, y1, y2, y3, y4, y5, y6, y7, y8, y9, y10, y11, y12, y13, y14, y15, y16, y17, y18, y19, y20, y21⟩ := C.2
    have hout : vx_W p l e R s m args below meth c T'.heap (locs ++ L) (cells + 1) (slots + 6) Q (F0 m pc ls rest) q :=
      vx_catch C.1.2.2.2.1 pre x suf hsplit (fun z hz => by
        obtain ⟨z0, nm, z1, z2⟩ := hpass z hz
        exact Or.inr ⟨z0, nm, C.1.2.2.2.2 _ z1, y18 _ z2⟩) hx h0 (C.1.2.2.2.2 _ hlink) (va_tabs rfl rfl (y20 _ hcast)) (by rw [e1]; exact hcell) hvm hcl
        (kk q T'.heap (locs ++ L) ls (by rw [e1]; exact hu) hS1 hl)
    obtain ⟨t2, a1, b1⟩ := hout T' rfl X'
    exact ⟨t2, st.trans a1, b1⟩
/-- a call of a wrapper -/
theorem a_callL {G2 : xG} (hA : x_b G2 = x_b G) (C : Cx G p s m args c cc Ts own nL) {y : MethodName} {bytes : ByteArray} {maxL n index lv : Nat} {ret : Option FieldType} {hh : List (Nat × Nat × Nat × Nat)} {ws : List Cond} {As : List Value} {r : Option Value} {d2 : xd}
    (hM : x_ML G G2 l y ws lv As d r d2) (cw : vx_CSW R s args own index y bytes maxL ret hh ws (x_rm lv 1 6) 1 6 n) (hn : As.length = n) {st : List Value} (hst : st = As.reverse ++ rest) (hro : (rest.map fun v => v.category).sum ≤ 8) (hdg : decode cc pc = .ok (.invokestatic index, 3)) (hf : cells + 1 ≤ R.cells ∧ slots + 6 ≤ R.slots)
    (hD : x_D G2 = x_D G) (kk : Ab G2 p l e R s m args below meth c nL (cells + 1) (slots + 6) Q (pc + 3) lst (r.toList ++ rest) d2) : Ab G p l e R s m args below meth c nL cells slots Q pc lst st d := by
  intro H locs ls hP hS hl
  subst hst
  have hr := vx_runSW (locs := locs) (meth := meth) (below := below) (e := e) (As := As) (rest := rest) (g := F0 m pc ls (As.reverse ++ rest)) C.1 hM cw ⟨x_blind G _ d, x_pre C.2 hP hS⟩ rfl hn hl.1 rfl (lv_room hro) hdg hf
  have hA2 : x_A G2 = x_A G := by unfold x_A; rw [hA]
  intro T hT X
  obtain ⟨v, st₀, t, T', L, h0, X', hL, e1, e2, ⟨hv, hu, hz, hk⟩, st⟩ := hr T hT X
  cases hv
  rw [h0] at hz hk
  rw [hA2] at hk
  obtain ⟨t2, a1, b1⟩ := kk T'.heap (locs ++ L) ls (by rw [e1]; exact hu)
    (by rw [hA2]; exact ⟨Nat.le_trans hS.1 (by rw [e1]; exact hz), fun q h1 h2 => by rw [e1, hk q (Nat.lt_of_lt_of_le h1 hS.1) h2]; exact hS.2.1 q h1 h2, fun q hq => by
      rcases List.mem_append.mp hq with h | h
      · exact hS.2.2 q h
      · exact hL q h⟩) hl T' rfl X'
  exact ⟨t2, st t2 a1, b1⟩
end XLROWS
/-- what a call of the class came to: it answers r (k = 0), or it throws the k-th of Es -/
def y_C (l : Launch) (y : MethodName) (ws : List Cond) (av : xG → List Value) (Es : List String) (k : Nat) (r : Value) (d d1 : xd) : Prop :=
  ∃ lv, lv ≤ 10 ∧ ((k = 0 ∧ ∀ G, x_M G l y ws lv 0 0 (av G) d (some r) d1) ∨ (∃ E, 1 ≤ k ∧ Es[k - 1]? = some E ∧ ∀ G, x_X G l y ws lv (av G) d E d1))
