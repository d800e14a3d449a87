-- STAND-INS
theorem n : True := trivial
theorem i : True := trivial
theorem k : True := trivial
theorem q : True := trivial
theorem u : True := trivial
theorem v : True := trivial
theorem w : True := trivial
theorem j : True := trivial
theorem o : True := trivial
theorem a : True := trivial
theorem b : True := trivial
theorem y : True := trivial
theorem z : True := trivial
theorem r : True := trivial
theorem t : True := trivial
theorem f : True := trivial
theorem g : True := trivial
theorem o2 : True := trivial
theorem a2 : True := trivial
theorem hlt : True := trivial
theorem hltk : True := trivial
theorem hlt3 : True := trivial
theorem hlt4 : True := trivial
theorem hn : True := trivial
theorem hq : True := trivial
theorem hm : True := trivial
theorem hi : True := trivial
theorem hi2 : True := trivial
theorem hi3 : True := trivial
theorem hk : True := trivial
theorem hj : True := trivial
theorem hb : True := trivial
theorem hs : True := trivial
theorem hw : True := trivial
theorem hx : True := trivial
theorem hz : True := trivial
theorem hv : True := trivial
theorem hr : True := trivial
theorem hc : True := trivial
theorem hu : True := trivial
theorem hp : True := trivial
theorem hl : True := trivial
theorem hh : True := trivial
theorem e : True := trivial
theorem e9 : True := trivial
theorem sh : True := trivial
theorem a0 : True := trivial
theorem c9 : True := trivial
theorem k9 : True := trivial
theorem m9 : True := trivial
theorem mm : True := trivial
theorem ha : True := trivial
theorem ho : True := trivial
theorem hS : True := trivial
theorem ha0 : True := trivial
theorem hs9 : True := trivial
theorem hk0 : True := trivial
theorem hk1 : True := trivial
theorem hk9 : True := trivial
theorem hap : True := trivial
theorem hoo : True := trivial
theorem qh : True := trivial
theorem ex : True := trivial
theorem ih : True := trivial
theorem ihk : True := trivial
theorem ih1 : True := trivial
theorem ih2 : True := trivial
theorem ih3 : True := trivial
theorem ih4 : True := trivial
theorem ihj : True := trivial
theorem st : True := trivial
theorem lst : True := trivial
theorem args0 : True := trivial
theorem hcn : True := trivial
theorem hcir : True := trivial
theorem q8 : True := trivial
theorem z8 : True := trivial
theorem h0 : True := trivial
theorem h1 : True := trivial
theorem h2 : True := trivial
theorem h3 : True := trivial
theorem h4 : True := trivial
theorem h5 : True := trivial
theorem h7 : True := trivial
theorem h10 : True := trivial
theorem h11 : True := trivial
theorem h12 : True := trivial
theorem h13 : True := trivial
theorem h14 : True := trivial
theorem h15 : True := trivial
theorem h16 : True := trivial
theorem h17 : True := trivial
theorem h18 : True := trivial
theorem h19 : True := trivial
theorem h20 : True := trivial
theorem h21 : True := trivial
theorem h22 : True := trivial
theorem h23 : True := trivial
theorem h24 : True := trivial
theorem h25 : True := trivial
theorem h26 : True := trivial
theorem h27 : True := trivial
theorem h28 : True := trivial
theorem h29 : True := trivial
theorem h30 : True := trivial
theorem h31 : True := trivial
theorem h32 : True := trivial
theorem h33 : True := trivial
theorem h34 : True := trivial
theorem h35 : True := trivial
theorem h36 : True := trivial
theorem h37 : True := trivial
theorem h38 : True := trivial
theorem h39 : True := trivial
theorem h40 : True := trivial
theorem h41 : True := trivial
theorem h42 : True := trivial
theorem h43 : True := trivial
theorem h44 : True := trivial
theorem h45 : True := trivial
theorem h46 : True := trivial
theorem h47 : True := trivial
theorem h48 : True := trivial
theorem h49 : True := trivial
theorem h50 : True := trivial
theorem h51 : True := trivial
theorem h52 : True := trivial
theorem h53 : True := trivial
theorem h54 : True := trivial
theorem h55 : True := trivial
theorem h56 : True := trivial
theorem h57 : True := trivial
theorem h58 : True := trivial
theorem h59 : True := trivial
theorem h60 : True := trivial
theorem h61 : True := trivial
theorem h62 : True := trivial
theorem h63 : True := trivial
theorem h64 : True := trivial
theorem h65 : True := trivial
theorem h66 : True := trivial
theorem h67 : True := trivial
theorem h68 : True := trivial
theorem h69 : True := trivial
theorem h70 : True := trivial
theorem h71 : True := trivial
theorem h72 : True := trivial
theorem h73 : True := trivial
theorem h74 : True := trivial
theorem h75 : True := trivial
theorem h76 : True := trivial
theorem h77 : True := trivial
theorem h78 : True := trivial
theorem h79 : True := trivial
theorem h80 : True := trivial
theorem h81 : True := trivial
theorem h82 : True := trivial
theorem h83 : True := trivial
theorem h84 : True := trivial
theorem h85 : True := trivial
theorem h86 : True := trivial
theorem h87 : True := trivial
theorem h88 : True := trivial
theorem h89 : True := trivial
theorem h90 : True := trivial
theorem h91 : True := trivial
theorem h92 : True := trivial
theorem h93 : True := trivial
theorem h94 : True := trivial
theorem h95 : True := trivial
theorem h96 : True := trivial
theorem h97 : True := trivial
theorem h98 : True := trivial
theorem h99 : True := trivial
theorem h100 : True := trivial
theorem h101 : True := trivial
theorem h102 : True := trivial
theorem h103 : True := trivial
theorem h104 : True := trivial
theorem h105 : True := trivial
theorem h106 : True := trivial
theorem h107 : True := trivial
theorem h108 : True := trivial
theorem h109 : True := trivial
theorem h110 : True := trivial
theorem h111 : True := trivial
theorem h112 : True := trivial
theorem h113 : True := trivial
theorem h114 : True := trivial
theorem h115 : True := trivial
theorem h116 : True := trivial
theorem h117 : True := trivial
theorem h118 : True := trivial
theorem h119 : True := trivial
theorem h120 : True := trivial
theorem h121 : True := trivial
theorem h122 : True := trivial
theorem h123 : True := trivial
theorem h124 : True := trivial
theorem h125 : True := trivial
theorem h126 : True := trivial
theorem h127 : True := trivial
theorem h128 : True := trivial
theorem h129 : True := trivial
theorem h130 : True := trivial
theorem h131 : True := trivial
theorem h132 : True := trivial
theorem h133 : True := trivial
theorem h134 : True := trivial
theorem h135 : True := trivial
theorem h136 : True := trivial
theorem h137 : True := trivial
theorem h138 : True := trivial
theorem h139 : True := trivial
theorem h140 : True := trivial
theorem h141 : True := trivial
theorem h142 : True := trivial
theorem h143 : True := trivial
theorem h144 : True := trivial
theorem h145 : True := trivial
theorem h146 : True := trivial
theorem h147 : True := trivial
theorem h148 : True := trivial
theorem h149 : True := trivial
theorem h150 : True := trivial
theorem h151 : True := trivial
theorem h152 : True := trivial
theorem h153 : True := trivial
theorem h154 : True := trivial
theorem h155 : True := trivial
theorem h156 : True := trivial
theorem h157 : True := trivial
theorem h158 : True := trivial
theorem h159 : True := trivial
theorem h160 : True := trivial
theorem h161 : True := trivial
theorem h162 : True := trivial
theorem h163 : True := trivial
theorem h164 : True := trivial
theorem h165 : True := trivial
theorem h166 : True := trivial
theorem h167 : True := trivial
theorem h168 : True := trivial
theorem h169 : True := trivial
theorem h170 : True := trivial
theorem h171 : True := trivial
theorem h172 : True := trivial
theorem h173 : True := trivial
theorem h174 : True := trivial
theorem h175 : True := trivial
theorem h176 : True := trivial
theorem h177 : True := trivial
theorem h178 : True := trivial
theorem h179 : True := trivial
theorem h180 : True := trivial
theorem h181 : True := trivial
theorem h182 : True := trivial
theorem h183 : True := trivial
theorem h184 : True := trivial
theorem h185 : True := trivial
theorem h186 : True := trivial
theorem h187 : True := trivial
theorem h188 : True := trivial
theorem h189 : True := trivial
theorem h190 : True := trivial
theorem h191 : True := trivial
theorem h192 : True := trivial
theorem h193 : True := trivial
theorem h194 : True := trivial
theorem h195 : True := trivial
theorem h196 : True := trivial
theorem h197 : True := trivial
theorem h198 : True := trivial
theorem h199 : True := trivial
theorem L0 : True := trivial
theorem L1 : True := trivial
theorem L2 : True := trivial
theorem L3 : True := trivial
theorem L4 : True := trivial
theorem L5 : True := trivial
theorem L6 : True := trivial
theorem L7 : True := trivial
theorem L8 : True := trivial
theorem L9 : True := trivial
theorem L10 : True := trivial
theorem L11 : True := trivial
theorem L12 : True := trivial
theorem L13 : True := trivial
theorem L14 : True := trivial
theorem L15 : True := trivial
theorem L16 : True := trivial
theorem L17 : True := trivial
theorem L18 : True := trivial
theorem L19 : True := trivial
theorem L20 : True := trivial
theorem L21 : True := trivial
theorem L22 : True := trivial
theorem L23 : True := trivial
theorem L24 : True := trivial
theorem L25 : True := trivial
theorem L26 : True := trivial
theorem L27 : True := trivial
theorem L28 : True := trivial
theorem L29 : True := trivial
theorem L30 : True := trivial
theorem L31 : True := trivial
theorem L32 : True := trivial
theorem L33 : True := trivial
theorem L34 : True := trivial
theorem L35 : True := trivial
theorem L36 : True := trivial
theorem L37 : True := trivial
theorem L38 : True := trivial
theorem L39 : True := trivial
theorem L40 : True := trivial
theorem L41 : True := trivial
theorem L42 : True := trivial
theorem L43 : True := trivial
theorem L44 : True := trivial
theorem L45 : True := trivial
theorem L46 : True := trivial
theorem L47 : True := trivial
theorem L48 : True := trivial
theorem L49 : True := trivial
theorem L50 : True := trivial
theorem L51 : True := trivial
theorem L52 : True := trivial
theorem L53 : True := trivial
theorem L54 : True := trivial
theorem L55 : True := trivial
theorem L56 : True := trivial
theorem L57 : True := trivial
theorem L58 : True := trivial
theorem L59 : True := trivial
theorem L60 : True := trivial
theorem L61 : True := trivial
theorem L62 : True := trivial
theorem L63 : True := trivial
theorem L64 : True := trivial
theorem L65 : True := trivial
theorem L66 : True := trivial
theorem L67 : True := trivial
theorem L68 : True := trivial
theorem L69 : True := trivial
theorem L70 : True := trivial
theorem L71 : True := trivial
theorem L72 : True := trivial
theorem L73 : True := trivial
theorem L74 : True := trivial
theorem L75 : True := trivial
theorem L76 : True := trivial
theorem L77 : True := trivial
theorem L78 : True := trivial
theorem L79 : True := trivial
theorem L80 : True := trivial
theorem L81 : True := trivial
theorem L82 : True := trivial
theorem L83 : True := trivial
theorem L84 : True := trivial
theorem L85 : True := trivial
theorem L86 : True := trivial
theorem L87 : True := trivial
theorem L88 : True := trivial
theorem L89 : True := trivial
theorem L90 : True := trivial
theorem L91 : True := trivial
theorem L92 : True := trivial
theorem L93 : True := trivial
theorem L94 : True := trivial
theorem L95 : True := trivial
theorem L96 : True := trivial
theorem L97 : True := trivial
theorem L98 : True := trivial
theorem L99 : True := trivial
theorem L100 : True := trivial
theorem L101 : True := trivial
theorem L102 : True := trivial
theorem L103 : True := trivial
theorem L104 : True := trivial
theorem L105 : True := trivial
theorem L106 : True := trivial
theorem L107 : True := trivial
theorem L108 : True := trivial
theorem L109 : True := trivial
theorem L110 : True := trivial
theorem L111 : True := trivial
theorem L112 : True := trivial
theorem L113 : True := trivial
theorem L114 : True := trivial
theorem L115 : True := trivial
theorem L116 : True := trivial
theorem L117 : True := trivial
theorem L118 : True := trivial
theorem L119 : True := trivial
theorem L120 : True := trivial
theorem L121 : True := trivial
theorem L122 : True := trivial
theorem L123 : True := trivial
theorem L124 : True := trivial
theorem L125 : True := trivial
theorem L126 : True := trivial
theorem L127 : True := trivial
theorem L128 : True := trivial
theorem L129 : True := trivial
theorem L130 : True := trivial
theorem L131 : True := trivial
theorem L132 : True := trivial
theorem L133 : True := trivial
theorem L134 : True := trivial
theorem L135 : True := trivial
theorem L136 : True := trivial
theorem L137 : True := trivial
theorem L138 : True := trivial
theorem L139 : True := trivial
theorem L140 : True := trivial
theorem L141 : True := trivial
theorem L142 : True := trivial
theorem L143 : True := trivial
theorem L144 : True := trivial
theorem L145 : True := trivial
theorem L146 : True := trivial
theorem L147 : True := trivial
theorem L148 : True := trivial
theorem L149 : True := trivial
theorem L150 : True := trivial
theorem L151 : True := trivial
theorem L152 : True := trivial
theorem L153 : True := trivial
theorem L154 : True := trivial
theorem L155 : True := trivial
theorem L156 : True := trivial
theorem L157 : True := trivial
theorem L158 : True := trivial
theorem L159 : True := trivial
theorem L160 : True := trivial
theorem L161 : True := trivial
theorem L162 : True := trivial
theorem L163 : True := trivial
theorem L164 : True := trivial
theorem L165 : True := trivial
theorem L166 : True := trivial
theorem L167 : True := trivial
theorem L168 : True := trivial
theorem L169 : True := trivial
theorem L170 : True := trivial
theorem L171 : True := trivial
theorem L172 : True := trivial
theorem L173 : True := trivial
theorem L174 : True := trivial
theorem L175 : True := trivial
theorem L176 : True := trivial
theorem L177 : True := trivial
theorem L178 : True := trivial
theorem L179 : True := trivial
theorem L180 : True := trivial
theorem L181 : True := trivial
theorem L182 : True := trivial
theorem L183 : True := trivial
theorem L184 : True := trivial
theorem L185 : True := trivial
theorem L186 : True := trivial
theorem L187 : True := trivial
theorem L188 : True := trivial
theorem L189 : True := trivial
theorem L190 : True := trivial
theorem L191 : True := trivial
theorem L192 : True := trivial
theorem L193 : True := trivial
theorem L194 : True := trivial
theorem L195 : True := trivial
theorem L196 : True := trivial
theorem L197 : True := trivial
theorem L198 : True := trivial
theorem L199 : True := trivial
-- STAND-INS
section XROWS2
variable {G : xG} {p : Program} {l : Launch} {e : Env} {R : Room} {s : State} {m : MethodId} {args : Array Value} {below : List Frame} {meth : Method} {c : Code} {nL cells slots : Nat} {Q : State → Prop} {cc : ByteArray} {Ts : List Cond} {own : String} {pc : Nat} {lst lst2 : List (Nat × Value)} {rest : List Value} {d : xd}
theorem x_Eat (C : Cx G p s m args c cc Ts own nL) : x_E G s s.heap := C.2.2.2
def x_vd (v : Nat) : Int32 := ([2, 1, 0, 0, 2, 2, 1, 1, 1, 1, 0, 0, 1] : List Int32).getD v 0
def x_vh (v : Nat) : Int32 := ([0, 0, 1, 1, 0, 0, 0, 0, 0, 0, 0, 0, 1] : List Int32).getD v 0
def x_vo (v : Nat) : Int32 := ([0, 1, 2, 3, 4, 5, 6, 7, 8, 9, 10, 11, 12] : List Int32).getD v 0
theorem a_getVd (C : Cx G p s m args c cc Ts own nL) {index v : Nat} (hv : v < 13) (hlk : Cond.fieldLink own index "LampCooperative$Verb" "digits" "I" ∈ Ts) (hdg : decode cc pc = .ok (.getfield index, 3)) (kk : Ab G p l e R s m args below meth c nL cells slots Q (pc + 3) lst (.int (x_vd v) :: rest) d) : Ab G p l e R s m args below meth c nL cells slots Q pc lst (.ref (x_e G 0 v) :: rest) d :=
  fun H locs ls hP hS hl => va_getE C.1.1 C.1.2.1 (x_Eat C).2.1 hv hS C.1.2.2.2.1 (q := ("LampCooperative$Verb", "digits", "I", [2, 1, 0, 0, 2, 2, 1, 1, 1, 1, 0, 0, 1])) (by simp [x_vF]) (C.1.2.2.2.2 _ hlk) (fun _ h9 => h9) hdg (kk H locs ls hP hS hl)
theorem a_getVh (C : Cx G p s m args c cc Ts own nL) {index v : Nat} (hv : v < 13) (hlk : Cond.fieldLink own index "LampCooperative$Verb" "hasNumber" "Z" ∈ Ts) (hdg : decode cc pc = .ok (.getfield index, 3)) (kk : Ab G p l e R s m args below meth c nL cells slots Q (pc + 3) lst (.int (x_vh v) :: rest) d) : Ab G p l e R s m args below meth c nL cells slots Q pc lst (.ref (x_e G 0 v) :: rest) d :=
  fun H locs ls hP hS hl => va_getE C.1.1 C.1.2.1 (x_Eat C).2.1 hv hS C.1.2.2.2.1 (q := ("LampCooperative$Verb", "hasNumber", "Z", [0, 0, 1, 1, 0, 0, 0, 0, 0, 0, 0, 0, 1])) (by simp [x_vF]) (C.1.2.2.2.2 _ hlk) (fun _ h9 => h9) hdg (kk H locs ls hP hS hl)
theorem a_getVo (C : Cx G p s m args c cc Ts own nL) {index v : Nat} (hv : v < 13) (hlk : Cond.fieldLink own index "java/lang/Enum" "ordinal" "I" ∈ Ts) (hdg : decode cc pc = .ok (.getfield index, 3)) (kk : Ab G p l e R s m args below meth c nL cells slots Q (pc + 3) lst (.int (x_vo v) :: rest) d) : Ab G p l e R s m args below meth c nL cells slots Q pc lst (.ref (x_e G 0 v) :: rest) d :=
  fun H locs ls hP hS hl => va_getE C.1.1 C.1.2.1 (x_Eat C).2.1 hv hS C.1.2.2.2.1 (q := ("java/lang/Enum", "ordinal", "I", [0, 1, 2, 3, 4, 5, 6, 7, 8, 9, 10, 11, 12])) (by simp [x_vF]) (C.1.2.2.2.2 _ hlk) (fun _ h9 => h9) hdg (kk H locs ls hP hS hl)
theorem a_getVw (C : Cx G p s m args c cc Ts own nL) {index v : Nat} (hv : v < 13) (hlk : Cond.fieldLink own index "LampCooperative$Verb" "word" "Ljava/lang/String;" ∈ Ts) (hdg : decode cc pc = .ok (.getfield index, 3)) (kk : Ab G p l e R s m args below meth c nL cells slots Q (pc + 3) lst (.ref (x_e G 2 v) :: rest) d) : Ab G p l e R s m args below meth c nL cells slots Q pc lst (.ref (x_e G 0 v) :: rest) d :=
  fun H locs ls hP hS hl => vk_getf C.1.1 C.1.2.1 ((x_Eat C).2.2.1 v hv) hS C.1.2.2.2.1 (C.1.2.2.2.2 _ hlk) (fun _ h9 => h9) hdg (kk H locs ls hP hS hl)
theorem a_getSv (C : Cx G p s m args c cc Ts own nL) {index v : Nat} (hv : v < 13) (hlk : Cond.fieldLink own index "java/lang/String" "value" "[B" ∈ Ts) (hdg : decode cc pc = .ok (.getfield index, 3)) (kk : Ab G p l e R s m args below meth c nL cells slots Q (pc + 3) lst (.ref (x_e G 3 v) :: rest) d) : Ab G p l e R s m args below meth c nL cells slots Q pc lst (.ref (x_e G 2 v) :: rest) d :=
  fun H locs ls hP hS hl => vk_getf C.1.1 C.1.2.1 ((x_Eat C).2.2.2.1.1 v hv).2.2.1 hS C.1.2.2.2.1 (C.1.2.2.2.2 _ hlk) (fun _ h9 => h9) hdg (kk H locs ls hP hS hl)
theorem a_getSc (C : Cx G p s m args c cc Ts own nL) {index v : Nat} (hv : v < 13) (hlk : Cond.fieldLink own index "java/lang/String" "coder" "B" ∈ Ts) (hdg : decode cc pc = .ok (.getfield index, 3)) (kk : Ab G p l e R s m args below meth c nL cells slots Q (pc + 3) lst (.int 0 :: rest) d) : Ab G p l e R s m args below meth c nL cells slots Q pc lst (.ref (x_e G 2 v) :: rest) d :=
  fun H locs ls hP hS hl => vk_getf C.1.1 C.1.2.1 ((x_Eat C).2.2.2.1.1 v hv).2.1 hS C.1.2.2.2.1 (C.1.2.2.2.2 _ hlk) (fun _ h9 => h9) hdg (kk H locs ls hP hS hl)
def x_wL (v : Nat) : Nat := x_wl.getD v 0
def x_wB (v j : Nat) : Int32 := (x_wb.getD v []).getD j 0
theorem a_alenS (C : Cx G p s m args c cc Ts own nL) {v : Nat} (hv : v < 13) (hdg : decode cc pc = .ok (.arraylength, 1)) (kk : Ab G p l e R s m args below meth c nL cells slots Q (pc + 1) lst (.int (nI (x_wL v)) :: rest) d) : Ab G p l e R s m args below meth c nL cells slots Q pc lst (.ref (x_e G 3 v) :: rest) d :=
  fun H locs ls hP hS hl => va_tlen C.1.1 C.1.2.1 ((x_Eat C).2.2.2.1.1 v hv).2.2.2 hS rfl hdg (kk H locs ls hP hS hl)
theorem a_baS (C : Cx G p s m args c cc Ts own nL) {v i : Nat} {x : Int32} (hv : v < 13) (hx : x = nI i) (hi : i < x_wL v) (h9 : x_wL v < 1000) (hdg : decode cc pc = .ok (.baload, 1)) (kk : Ab G p l e R s m args below meth c nL cells slots Q (pc + 1) lst (.int (x_wB v i) :: rest) d) : Ab G p l e R s m args below meth c nL cells slots Q pc lst (.int x :: .ref (x_e G 3 v) :: rest) d := by
  subst hx
  exact fun H locs ls hP hS hl => va_tb C.1.1 C.1.2.1 ((x_Eat C).2.2.2.1.1 v hv).2.2.2 hS (x_vp (n := x_wL v) hi (by omega)) (by rw [x_cl hi (by omega)]; rfl) hdg (kk H locs ls hP hS hl)
theorem a_getsVB (C : Cx G p s m args c cc Ts own nL) {index : Nat} (hlk : Cond.fieldLink own index "LampCooperative$CommandText" "VERBS" "[LLampCooperative$Verb;" ∈ Ts) (hdg : decode cc pc = .ok (.getstatic index, 3)) (kk : Ab G p l e R s m args below meth c nL cells slots Q (pc + 3) lst (.ref (x_e G 4 0) :: rest) d) : Ab G p l e R s m args below meth c nL cells slots Q pc lst rest d :=
  fun H locs ls hP hS hl => va_gets C.1.1 C.1.2.1 (x_Eat C).2.2.2.2.1 hS C.1.2.2.2.1 (C.1.2.2.2.2 _ hlk) (fun _ h9 => h9) hdg (kk H locs ls hP hS hl)
theorem a_alenVB (C : Cx G p s m args c cc Ts own nL) (hdg : decode cc pc = .ok (.arraylength, 1)) (kk : Ab G p l e R s m args below meth c nL cells slots Q (pc + 1) lst (.int 13 :: rest) d) : Ab G p l e R s m args below meth c nL cells slots Q pc lst (.ref (x_e G 4 0) :: rest) d :=
  fun H locs ls hP hS hl => va_tlen C.1.1 C.1.2.1 (x_Eat C).2.2.2.2.2.1 hS rfl hdg (kk H locs ls hP hS hl)
theorem a_aaldVB (C : Cx G p s m args c cc Ts own nL) {i : Nat} {x : Int32} (hx : x = nI i) (hi : i < 13) (hdg : decode cc pc = .ok (.aaload, 1)) (kk : Ab G p l e R s m args below meth c nL cells slots Q (pc + 1) lst (.ref (x_e G 0 i) :: rest) d) : Ab G p l e R s m args below meth c nL cells slots Q pc lst (.int x :: .ref (x_e G 4 0) :: rest) d := by
  subst hx
  exact fun H locs ls hP hS hl => vb_tq C.1.1 C.1.2.1 (x_Eat C).2.2.2.2.2.1 hS (x_vp hi (by omega)) (by rw [x_cl hi (by omega)]) hdg (kk H locs ls hP hS hl)
theorem a_getsSM (C : Cx G p s m args c cc Ts own nL) {index : Nat} (hlk : Cond.fieldLink own index "LampCooperative$1" "$SwitchMap$LampCooperative$Verb" "[I" ∈ Ts) (hdg : decode cc pc = .ok (.getstatic index, 3)) (kk : Ab G p l e R s m args below meth c nL cells slots Q (pc + 3) lst (.ref (x_e G 4 1) :: rest) d) : Ab G p l e R s m args below meth c nL cells slots Q pc lst rest d :=
  fun H locs ls hP hS hl => va_gets C.1.1 C.1.2.1 (x_Eat C).2.2.2.2.2.2.1 hS C.1.2.2.2.1 (C.1.2.2.2.2 _ hlk) (fun _ h9 => h9) hdg (kk H locs ls hP hS hl)
theorem a_iaSM (C : Cx G p s m args c cc Ts own nL) {i : Nat} {x : Int32} (hx : x = nI i) (hi : i < 13) (hdg : decode cc pc = .ok (.iaload, 1)) (kk : Ab G p l e R s m args below meth c nL cells slots Q (pc + 1) lst (.int (nI (i + 1)) :: rest) d) : Ab G p l e R s m args below meth c nL cells slots Q pc lst (.int x :: .ref (x_e G 4 1) :: rest) d := by
  subst hx
  exact fun H locs ls hP hS hl => va_ti C.1.1 C.1.2.1 (x_Eat C).2.2.2.2.2.2.2.1 hS (x_vp hi (by omega)) (by rw [x_cl hi (by omega)]; rfl) hdg (kk H locs ls hP hS hl)
theorem a_getsCS (C : Cx G p s m args c cc Ts own nL) {index : Nat} (hlk : Cond.fieldLink own index "java/lang/String" "COMPACT_STRINGS" "Z" ∈ Ts) (hdg : decode cc pc = .ok (.getstatic index, 3)) (kk : Ab G p l e R s m args below meth c nL cells slots Q (pc + 3) lst (.int 1 :: rest) d) : Ab G p l e R s m args below meth c nL cells slots Q pc lst rest d :=
  fun H locs ls hP hS hl => va_gets C.1.1 C.1.2.1 (x_Eat C).2.2.2.2.2.2.2.2.2.2.1 hS C.1.2.2.2.1 (C.1.2.2.2.2 _ hlk) (fun _ h9 => h9) hdg (kk H locs ls hP hS hl)
theorem a_getsDO (C : Cx G p s m args c cc Ts own nL) {index : Nat} (hlk : Cond.fieldLink own index "java/lang/Integer" "DigitOnes" "[B" ∈ Ts) (hdg : decode cc pc = .ok (.getstatic index, 3)) (kk : Ab G p l e R s m args below meth c nL cells slots Q (pc + 3) lst (.ref (x_e G 4 2) :: rest) d) : Ab G p l e R s m args below meth c nL cells slots Q pc lst rest d :=
  fun H locs ls hP hS hl => va_gets C.1.1 C.1.2.1 (x_Eat C).2.2.2.2.2.2.2.2.2.2.2.1 hS C.1.2.2.2.1 (C.1.2.2.2.2 _ hlk) (fun _ h9 => h9) hdg (kk H locs ls hP hS hl)
theorem a_baDO (C : Cx G p s m args c cc Ts own nL) {i : Nat} {x : Int32} (hx : x = nI i) (hi : i < 100) (hdg : decode cc pc = .ok (.baload, 1)) (kk : Ab G p l e R s m args below meth c nL cells slots Q (pc + 1) lst (.int (nI (48 + i % 10)) :: rest) d) : Ab G p l e R s m args below meth c nL cells slots Q pc lst (.int x :: .ref (x_e G 4 2) :: rest) d := by
  subst hx
  exact fun H locs ls hP hS hl => va_tb C.1.1 C.1.2.1 (x_Eat C).2.2.2.2.2.2.2.2.2.2.2.2.1 hS (x_vp hi (by omega)) (by rw [x_cl hi (by omega)]; rfl) hdg (kk H locs ls hP hS hl)
theorem a_getsDT (C : Cx G p s m args c cc Ts own nL) {index : Nat} (hlk : Cond.fieldLink own index "java/lang/Integer" "DigitTens" "[B" ∈ Ts) (hdg : decode cc pc = .ok (.getstatic index, 3)) (kk : Ab G p l e R s m args below meth c nL cells slots Q (pc + 3) lst (.ref (x_e G 4 3) :: rest) d) : Ab G p l e R s m args below meth c nL cells slots Q pc lst rest d :=
  fun H locs ls hP hS hl => va_gets C.1.1 C.1.2.1 (x_Eat C).2.2.2.2.2.2.2.2.2.2.2.2.2.1 hS C.1.2.2.2.1 (C.1.2.2.2.2 _ hlk) (fun _ h9 => h9) hdg (kk H locs ls hP hS hl)
theorem a_baDT (C : Cx G p s m args c cc Ts own nL) {i : Nat} {x : Int32} (hx : x = nI i) (hi : i < 100) (hdg : decode cc pc = .ok (.baload, 1)) (kk : Ab G p l e R s m args below meth c nL cells slots Q (pc + 1) lst (.int (nI (48 + i / 10)) :: rest) d) : Ab G p l e R s m args below meth c nL cells slots Q pc lst (.int x :: .ref (x_e G 4 3) :: rest) d := by
  subst hx
  exact fun H locs ls hP hS hl => va_tb C.1.1 C.1.2.1 (x_Eat C).2.2.2.2.2.2.2.2.2.2.2.2.2.2.1 hS (x_vp hi (by omega)) (by rw [x_cl hi (by omega)]; rfl) hdg (kk H locs ls hP hS hl)
def x_rn (v : Value) : Prop := v = .null ∨ ∃ t, v = .ref t
theorem a_getsQ (C : Cx G p s m args c cc Ts own nL) {index : Nat} (hlk : Cond.fieldLink own index "jdk/internal/util/Preconditions" "SIOOBE_FORMATTER" "Ljava/util/function/BiFunction;" ∈ Ts) (hdg : decode cc pc = .ok (.getstatic index, 3)) (kk : ∀ fv : Value, x_rn fv → Ab G p l e R s m args below meth c nL cells slots Q (pc + 3) lst (fv :: rest) d) : Ab G p l e R s m args below meth c nL cells slots Q pc lst rest d := by
  intro H locs ls hP hS hl
  have hq : va_Zq "jdk/internal/util/Preconditions" "SIOOBE_FORMATTER" "Ljava/util/function/BiFunction;" (x_A G) s s.heap := (x_Eat C).2.2.2.2.2.2.2.2.2.2.2.2.2.2.2.2.2.2.2.2
  rcases hq with h | ⟨t, h⟩
  · exact va_gets C.1.1 C.1.2.1 h hS C.1.2.2.2.1 (C.1.2.2.2.2 _ hlk) (fun _ h9 => h9) hdg (kk .null (Or.inl rfl) H locs ls hP hS hl)
  · exact va_gets C.1.1 C.1.2.1 h hS C.1.2.2.2.1 (C.1.2.2.2.2 _ hlk) (fun _ h9 => h9) hdg (kk (.ref t) (Or.inr ⟨t, rfl⟩) H locs ls hP hS hl)
theorem a_ifnonnull (C : Cx G p s m args c cc Ts own nL) {x : Nat} {off : Int} {tgt : Nat} (hdg : decode cc pc = .ok (.ifnonnull off, 3)) (ht : (pc : Int) + off = (tgt : Int)) (kk : Ab G p l e R s m args below meth c nL cells slots Q tgt lst rest d) : Ab G p l e R s m args below meth c nL cells slots Q pc lst (.ref x :: rest) d := fun H locs ls hP hS hl => lv_ifnonnull C.1.1 C.1.2.1 hdg ht (kk H locs ls hP hS hl)
theorem a_ifnonnullN (C : Cx G p s m args c cc Ts own nL) {off : Int} (hdg : decode cc pc = .ok (.ifnonnull off, 3)) (kk : Ab G p l e R s m args below meth c nL cells slots Q (pc + 3) lst rest d) : Ab G p l e R s m args below meth c nL cells slots Q pc lst (.null :: rest) d := fun H locs ls hP hS hl => lv_ifnonnullN C.1.1 C.1.2.1 hdg (kk H locs ls hP hS hl)
theorem a_ifnull (C : Cx G p s m args c cc Ts own nL) {x : Nat} {off : Int} (hdg : decode cc pc = .ok (.ifnull off, 3)) (kk : Ab G p l e R s m args below meth c nL cells slots Q (pc + 3) lst rest d) : Ab G p l e R s m args below meth c nL cells slots Q pc lst (.ref x :: rest) d := fun H locs ls hP hS hl => lv_ifnull C.1.1 C.1.2.1 hdg (kk H locs ls hP hS hl)
theorem a_ifnullN (C : Cx G p s m args c cc Ts own nL) {off : Int} {tgt : Nat} (hdg : decode cc pc = .ok (.ifnull off, 3)) (ht : (pc : Int) + off = (tgt : Int)) (kk : Ab G p l e R s m args below meth c nL cells slots Q tgt lst rest d) : Ab G p l e R s m args below meth c nL cells slots Q pc lst (.null :: rest) d := fun H locs ls hP hS hl => lv_ifnullN C.1.1 C.1.2.1 hdg ht (kk H locs ls hP hS hl)
theorem a_dupx1 (C : Cx G p s m args c cc Ts own nL) {va vb : Value} (hdg : decode cc pc = .ok (.dup_x1, 1)) (hva : va.category = 1) (hvb : vb.category = 1) (kk : Ab G p l e R s m args below meth c nL cells slots Q (pc + 1) lst (va :: vb :: va :: rest) d) : Ab G p l e R s m args below meth c nL cells slots Q pc lst (va :: vb :: rest) d := fun H locs ls hP hS hl => lv_dup_x1 C.1.1 C.1.2.1 hdg hva hvb (kk H locs ls hP hS hl)
theorem a_i2b (C : Cx G p s m args c cc Ts own nL) {x v : Int32} (hdg : decode cc pc = .ok (.i2b, 1)) (hv : x.toInt8.toInt32 = v) (kk : Ab G p l e R s m args below meth c nL cells slots Q (pc + 1) lst (.int v :: rest) d) : Ab G p l e R s m args below meth c nL cells slots Q pc lst (.int x :: rest) d := fun H locs ls hP hS hl => lv_i2b C.1.1 C.1.2.1 hdg hv (kk H locs ls hP hS hl)
theorem a_popR (C : Cx G p s m args c cc Ts own nL) {fv : Value} (hr : x_rn fv) (hdg : decode cc pc = .ok (.pop, 1)) (kk : Ab G p l e R s m args below meth c nL cells slots Q (pc + 1) lst rest d) : Ab G p l e R s m args below meth c nL cells slots Q pc lst (fv :: rest) d := a_pop C hdg (by rcases hr with rfl | ⟨t, rfl⟩ <;> rfl) kk
theorem x_vr_s (G : xG) {v : Nat} (hv : v < 13) : x_vr G (nI (v + 1)) = some (x_e G 0 v) := by
  unfold x_vr
  rw [if_neg (fun h => by have := (nI_eq (b := 0) (by omega) (by omega)).mp h; omega), nI_clamp (by omega)]
  rfl
theorem x_assign (C9 : String) : ∀ comp c0 : ClassId, s.vm.findClass C9 = some comp → s.vm.findClass C9 = some c0 → s.vm.assignable c0 comp = true := by
  intro comp c0 h1 h2
  cases Option.some.inj (h1.symm.trans h2)
  show Vm.assignableAux s.vm (255 + 1) comp comp = true
  rw [Vm.assignableAux, beq_self_eq_true, Bool.true_or]
theorem a_aastV (C : Cx G p s m args c cc Ts own nL) {k n i v : Nat} {x : Int32} (hk : x_sh[k]? = some (.inr (5, n))) (hx : x = nI i) (hin : i < n) (hn : n < 2147483648) (hv : v < 13) (hdg : decode cc pc = .ok (.aastore, 1)) (kk : Ab G p l e R s m args below meth c nL cells slots Q (pc + 1) lst rest (x_p d k i (nI (v + 1)))) : Ab G p l e R s m args below meth c nL cells slots Q pc lst (.ref (x_e G 0 v) :: .int x :: .ref (x_b G + k) :: rest) d := by
  subst hx
  intro H locs ls hP hS hl
  refine vb_astq (D := x_D G) (E := "LampCooperative$Verb") (C := "LampCooperative$Verb") (f := fun j => x_vr G (d k j)) C.1.1 C.1.2.1 C.2.1 hP (x_Dok G d) hS k 5 (x_get G d hk) rfl (va_recvE (x_Eat C).2.1 hv hS) (x_assign _) (x_vp hin hn) hdg (fun H1 locs1 hP1 _ hS1 => kk H1 locs1 ls ?_ hS1 hl)
  have e := x_set G d (k := k) (sh := .inr (5, n)) (upd (d k) i (nI (v + 1))) hk
  rw [show x_p d k i (nI (v + 1)) = x_r d k (upd (d k) i (nI (v + 1))) from rfl, ← e]
  rw [x_cl hin hn] at hP1
  have e2 : va_up (fun j => x_vr G (d k j)) i (some (x_e G 0 v)) = fun j => x_vr G (upd (d k) i (nI (v + 1)) j) := by
    funext j
    by_cases q : j = i
    · subst q
      simp [va_up, upd, x_vr_s G hv]
    · simp [va_up, upd, q]
  rw [e2] at hP1
  exact hP1
theorem a_aaldV_ref (C : Cx G p s m args c cc Ts own nL) {k n i v : Nat} {x : Int32} (hk : x_sh[k]? = some (.inr (5, n))) (hx : x = nI i) (hin : i < n) (hn : n < 2147483648) (hv : v < 13) (hd : d k i = nI (v + 1)) (hdg : decode cc pc = .ok (.aaload, 1)) (kk : Ab G p l e R s m args below meth c nL cells slots Q (pc + 1) lst (.ref (x_e G 0 v) :: rest) d) : Ab G p l e R s m args below meth c nL cells slots Q pc lst (.int x :: .ref (x_b G + k) :: rest) d := by
  subst hx
  refine a_aaldV C hk (x_vp hin hn) hdg ?_
  rw [x_cl hin hn, hd, x_vr_s G hv]
  exact kk
/-- calls -/
theorem a_callR (C : Cx G p s m args c cc Ts own nL) {y : MethodName} {Cn : String} {bytes : ByteArray} {maxL mc ms n index lv b : Nat} {ret : Option FieldType} {ws : List Cond} {As : List Value} {r : Option Value} {d2 : xd}
    (hM : x_M G l y ws lv mc ms (.ref b :: As) d r d2) (cw : CallW R s args own Cn index y bytes maxL ret ws (x_rm lv mc ms) mc ms n) (hrec : ∀ (H : Heap) (locs : List Loc), va_S (x_A G) s.heap H locs → ∃ cell : Cell, H[b]? = some cell ∧ cell.vm.isStatics = false ∧ s.vm.findClass Cn = some cell.cls) (hn : As.length = n) {st : List Value} (hst : st = As.reverse ++ .ref b :: rest) (hro : (rest.map fun v => v.category).sum ≤ 8) (hdg : decode cc pc = .ok (.invokevirtual index, 3)) (hf : cells + mc ≤ R.cells ∧ slots + ms ≤ R.slots)
    (kk : Ab G p l e R s m args below meth c nL (cells + mc) (slots + ms) Q (pc + 3) lst (r.toList ++ rest) d2) : Ab G p l e R s m args below meth c nL cells slots Q pc lst st d := by
  intro H locs ls hP hS hl
  subst hst
  exact x_go (free := x_A G) (va_runV (As := As) (rest := rest) C.1 hM cw ⟨x_blind G _ d, hrec H locs hS, x_pre C.2 hP hS⟩ rfl hn hl.1 rfl (lv_room hro) hdg hf) hS hl kk
theorem x_recV (C : Cx G p s m args c cc Ts own nL) {v : Nat} (hv : v < 13) : ∀ (H : Heap) (locs : List Loc), va_S (x_A G) s.heap H locs → ∃ cell : Cell, H[x_e G 0 v]? = some cell ∧ cell.vm.isStatics = false ∧ s.vm.findClass "LampCooperative$Verb" = some cell.cls := fun _ _ hS => va_recvE (x_Eat C).2.1 hv hS
theorem x_recS (C : Cx G p s m args c cc Ts own nL) {v : Nat} (hv : v < 13) : ∀ (H : Heap) (locs : List Loc), va_S (x_A G) s.heap H locs → ∃ cell : Cell, H[x_e G 2 v]? = some cell ∧ cell.vm.isStatics = false ∧ s.vm.findClass "java/lang/String" = some cell.cls := fun _ _ hS => vk_recv (x_Eat C).2.2.2.1 hv hS
theorem a_callU (C : Cx G p s m args c cc Ts own nL) {x y : MethodName} {Cn owner : String} {bytes : ByteArray} {maxL mc ms n index lv k ci : Nat} {ret : Option FieldType} {ws : List Cond} {As : List Value} {r : Option Value} {d2 : xd} {fl : List (Option Nat)} {q : vw_C}
    (hM : x_M G l y ws lv mc ms (.ref (x_b G + k) :: As) d r d2) (cw : va_CU R s args own Cn owner index x y bytes maxL ret ws (x_rm lv mc ms) mc ms n) (hk : x_sh[k]? = some (.inl (ci, fl))) (hc : vwCl[ci]? = some q) (hq : q.1 = Cn) (hn : As.length = n) {st : List Value} (hst : st = As.reverse ++ .ref (x_b G + k) :: rest) (hro : (rest.map fun v => v.category).sum ≤ 8) (hdg : decode cc pc = .ok (.invokevirtual index, 3)) (hf : cells + mc ≤ R.cells ∧ slots + ms ≤ R.slots)
    (kk : Ab G p l e R s m args below meth c nL (cells + mc) (slots + ms) Q (pc + 3) lst (r.toList ++ rest) d2) : Ab G p l e R s m args below meth c nL cells slots Q pc lst st d := by
  intro H locs ls hP hS hl
  subst hst
  subst hq
  exact x_go (free := x_A G) (va_runU (As := As) (rest := rest) C.1 hM cw ⟨x_blind G _ d, va_recv C.2.1 hP hc (x_get G d hk), x_pre C.2 hP hS⟩ rfl hn hl.1 rfl (lv_room hro) hdg hf) hS hl kk
theorem a_callSU (C : Cx G p s m args c cc Ts own nL) {y : MethodName} {bytes : ByteArray} {maxL mc ms n index lv k ci : Nat} {ret : Option FieldType} {ws : List Cond} {As : List Value} {r : Option Value} {d2 : xd} {fl : List (Option Nat)} {q : vw_C}
    (hM : x_M G l y ws lv mc ms (.ref (x_b G + k) :: As) d r d2) (cw : va_CS R s args own index y bytes maxL ret ws (x_rm lv mc ms) mc ms n) (hk : x_sh[k]? = some (.inl (ci, fl))) (hc : vwCl[ci]? = some q) (hn : As.length = n) {st : List Value} (hst : st = As.reverse ++ .ref (x_b G + k) :: rest) (hro : (rest.map fun v => v.category).sum ≤ 8) (hdg : decode cc pc = .ok (.invokespecial index, 3)) (hf : cells + mc ≤ R.cells ∧ slots + ms ≤ R.slots)
    (kk : Ab G p l e R s m args below meth c nL (cells + mc) (slots + ms) Q (pc + 3) lst (r.toList ++ rest) d2) : Ab G p l e R s m args below meth c nL cells slots Q pc lst st d := by
  intro H locs ls hP hS hl
  subst hst
  exact x_go (free := x_A G) (va_runSU (As := As) (rest := rest) (C.2.1.1 ci q hc).2 C.1 hM cw ⟨x_blind G _ d, va_recv C.2.1 hP hc (x_get G d hk), x_pre C.2 hP hS⟩ rfl hn hl.1 rfl (lv_room hro) hdg hf) hS hl kk
theorem a_aretN (C : Cx G p s m args c cc Ts own nL) (hlocks : meth.locks = false) {n : String} (hr : meth.sig.returnType = some (.object n)) {d2 : xd} (hdg : decode cc pc = .ok (.areturn, 1)) (hd : d = d2) : Ab G p l e R s m args below meth c nL cells slots (MQ below (x_Q G (some .null) d2) args s cells slots (x_A G)) pc lst [.null] d := fun H locs ls hP hS hl => by
  subst hd
  exact W.aret C.1.1 C.1.2.1 hr (Or.inl ⟨n, rfl⟩) (Or.inl rfl) (x_end hP hS) hS.2.2 hdg hlocks
end XROWS2
