-- STAND-INS
theorem n : True := trivial
theorem i : True := trivial
theorem k : True := trivial
theorem q : True := trivial
theorem u : True := trivial
theorem v : True := trivial
theorem w : True := trivial
theorem j : True := trivial
theorem o : True := trivial
theorem a : True := trivial
theorem b : True := trivial
theorem y : True := trivial
theorem z : True := trivial
theorem r : True := trivial
theorem t : True := trivial
theorem f : True := trivial
theorem g : True := trivial
theorem o2 : True := trivial
theorem a2 : True := trivial
theorem hlt : True := trivial
theorem hltk : True := trivial
theorem hlt3 : True := trivial
theorem hlt4 : True := trivial
theorem hn : True := trivial
theorem hq : True := trivial
theorem hm : True := trivial
theorem hi : True := trivial
theorem hi2 : True := trivial
theorem hi3 : True := trivial
theorem hk : True := trivial
theorem hj : True := trivial
theorem hb : True := trivial
theorem hs : True := trivial
theorem hw : True := trivial
theorem hx : True := trivial
theorem hz : True := trivial
theorem hv : True := trivial
theorem hr : True := trivial
theorem hc : True := trivial
theorem hu : True := trivial
theorem hp : True := trivial
theorem hl : True := trivial
theorem hh : True := trivial
theorem e : True := trivial
theorem e9 : True := trivial
theorem sh : True := trivial
theorem a0 : True := trivial
theorem c9 : True := trivial
theorem k9 : True := trivial
theorem m9 : True := trivial
theorem mm : True := trivial
theorem ha : True := trivial
theorem ho : True := trivial
theorem hS : True := trivial
theorem ha0 : True := trivial
theorem hs9 : True := trivial
theorem hk0 : True := trivial
theorem hk1 : True := trivial
theorem hk9 : True := trivial
theorem hap : True := trivial
theorem hoo : True := trivial
theorem qh : True := trivial
theorem ex : True := trivial
theorem ih : True := trivial
theorem ihk : True := trivial
theorem ih1 : True := trivial
theorem ih2 : True := trivial
theorem ih3 : True := trivial
theorem ih4 : True := trivial
theorem ihj : True := trivial
theorem st : True := trivial
theorem lst : True := trivial
theorem args0 : True := trivial
theorem hcn : True := trivial
theorem hcir : True := trivial
theorem q8 : True := trivial
theorem z8 : True := trivial
theorem h0 : True := trivial
theorem h1 : True := trivial
theorem h2 : True := trivial
theorem h3 : True := trivial
theorem h4 : True := trivial
theorem h5 : True := trivial
theorem h7 : True := trivial
theorem h10 : True := trivial
theorem h11 : True := trivial
theorem h12 : True := trivial
theorem h13 : True := trivial
theorem h14 : True := trivial
theorem h15 : True := trivial
theorem h16 : True := trivial
theorem h17 : True := trivial
theorem h18 : True := trivial
theorem h19 : True := trivial
theorem h20 : True := trivial
theorem h21 : True := trivial
theorem h22 : True := trivial
theorem h23 : True := trivial
theorem h24 : True := trivial
theorem h25 : True := trivial
theorem h26 : True := trivial
theorem h27 : True := trivial
theorem h28 : True := trivial
theorem h29 : True := trivial
theorem h30 : True := trivial
theorem h31 : True := trivial
theorem h32 : True := trivial
theorem h33 : True := trivial
theorem h34 : True := trivial
theorem h35 : True := trivial
theorem h36 : True := trivial
theorem h37 : True := trivial
theorem h38 : True := trivial
theorem h39 : True := trivial
theorem h40 : True := trivial
theorem h41 : True := trivial
theorem h42 : True := trivial
theorem h43 : True := trivial
theorem h44 : True := trivial
theorem h45 : True := trivial
theorem h46 : True := trivial
theorem h47 : True := trivial
theorem h48 : True := trivial
theorem h49 : True := trivial
theorem h50 : True := trivial
theorem h51 : True := trivial
theorem h52 : True := trivial
theorem h53 : True := trivial
theorem h54 : True := trivial
theorem h55 : True := trivial
theorem h56 : True := trivial
theorem h57 : True := trivial
theorem h58 : True := trivial
theorem h59 : True := trivial
theorem h60 : True := trivial
theorem h61 : True := trivial
theorem h62 : True := trivial
theorem h63 : True := trivial
theorem h64 : True := trivial
theorem h65 : True := trivial
theorem h66 : True := trivial
theorem h67 : True := trivial
theorem h68 : True := trivial
theorem h69 : True := trivial
theorem h70 : True := trivial
theorem h71 : True := trivial
theorem h72 : True := trivial
theorem h73 : True := trivial
theorem h74 : True := trivial
theorem h75 : True := trivial
theorem h76 : True := trivial
theorem h77 : True := trivial
theorem h78 : True := trivial
theorem h79 : True := trivial
theorem h80 : True := trivial
theorem h81 : True := trivial
theorem h82 : True := trivial
theorem h83 : True := trivial
theorem h84 : True := trivial
theorem h85 : True := trivial
theorem h86 : True := trivial
theorem h87 : True := trivial
theorem h88 : True := trivial
theorem h89 : True := trivial
theorem h90 : True := trivial
theorem h91 : True := trivial
theorem h92 : True := trivial
theorem h93 : True := trivial
theorem h94 : True := trivial
theorem h95 : True := trivial
theorem h96 : True := trivial
theorem h97 : True := trivial
theorem h98 : True := trivial
theorem h99 : True := trivial
theorem h100 : True := trivial
theorem h101 : True := trivial
theorem h102 : True := trivial
theorem h103 : True := trivial
theorem h104 : True := trivial
theorem h105 : True := trivial
theorem h106 : True := trivial
theorem h107 : True := trivial
theorem h108 : True := trivial
theorem h109 : True := trivial
theorem h110 : True := trivial
theorem h111 : True := trivial
theorem h112 : True := trivial
theorem h113 : True := trivial
theorem h114 : True := trivial
theorem h115 : True := trivial
theorem h116 : True := trivial
theorem h117 : True := trivial
theorem h118 : True := trivial
theorem h119 : True := trivial
theorem h120 : True := trivial
theorem h121 : True := trivial
theorem h122 : True := trivial
theorem h123 : True := trivial
theorem h124 : True := trivial
theorem h125 : True := trivial
theorem h126 : True := trivial
theorem h127 : True := trivial
theorem h128 : True := trivial
theorem h129 : True := trivial
theorem h130 : True := trivial
theorem h131 : True := trivial
theorem h132 : True := trivial
theorem h133 : True := trivial
theorem h134 : True := trivial
theorem h135 : True := trivial
theorem h136 : True := trivial
theorem h137 : True := trivial
theorem h138 : True := trivial
theorem h139 : True := trivial
theorem h140 : True := trivial
theorem h141 : True := trivial
theorem h142 : True := trivial
theorem h143 : True := trivial
theorem h144 : True := trivial
theorem h145 : True := trivial
theorem h146 : True := trivial
theorem h147 : True := trivial
theorem h148 : True := trivial
theorem h149 : True := trivial
theorem h150 : True := trivial
theorem h151 : True := trivial
theorem h152 : True := trivial
theorem h153 : True := trivial
theorem h154 : True := trivial
theorem h155 : True := trivial
theorem h156 : True := trivial
theorem h157 : True := trivial
theorem h158 : True := trivial
theorem h159 : True := trivial
theorem h160 : True := trivial
theorem h161 : True := trivial
theorem h162 : True := trivial
theorem h163 : True := trivial
theorem h164 : True := trivial
theorem h165 : True := trivial
theorem h166 : True := trivial
theorem h167 : True := trivial
theorem h168 : True := trivial
theorem h169 : True := trivial
theorem h170 : True := trivial
theorem h171 : True := trivial
theorem h172 : True := trivial
theorem h173 : True := trivial
theorem h174 : True := trivial
theorem h175 : True := trivial
theorem h176 : True := trivial
theorem h177 : True := trivial
theorem h178 : True := trivial
theorem h179 : True := trivial
theorem h180 : True := trivial
theorem h181 : True := trivial
theorem h182 : True := trivial
theorem h183 : True := trivial
theorem h184 : True := trivial
theorem h185 : True := trivial
theorem h186 : True := trivial
theorem h187 : True := trivial
theorem h188 : True := trivial
theorem h189 : True := trivial
theorem h190 : True := trivial
theorem h191 : True := trivial
theorem h192 : True := trivial
theorem h193 : True := trivial
theorem h194 : True := trivial
theorem h195 : True := trivial
theorem h196 : True := trivial
theorem h197 : True := trivial
theorem h198 : True := trivial
theorem h199 : True := trivial
theorem L0 : True := trivial
theorem L1 : True := trivial
theorem L2 : True := trivial
theorem L3 : True := trivial
theorem L4 : True := trivial
theorem L5 : True := trivial
theorem L6 : True := trivial
theorem L7 : True := trivial
theorem L8 : True := trivial
theorem L9 : True := trivial
theorem L10 : True := trivial
theorem L11 : True := trivial
theorem L12 : True := trivial
theorem L13 : True := trivial
theorem L14 : True := trivial
theorem L15 : True := trivial
theorem L16 : True := trivial
theorem L17 : True := trivial
theorem L18 : True := trivial
theorem L19 : True := trivial
theorem L20 : True := trivial
theorem L21 : True := trivial
theorem L22 : True := trivial
theorem L23 : True := trivial
theorem L24 : True := trivial
theorem L25 : True := trivial
theorem L26 : True := trivial
theorem L27 : True := trivial
theorem L28 : True := trivial
theorem L29 : True := trivial
theorem L30 : True := trivial
theorem L31 : True := trivial
theorem L32 : True := trivial
theorem L33 : True := trivial
theorem L34 : True := trivial
theorem L35 : True := trivial
theorem L36 : True := trivial
theorem L37 : True := trivial
theorem L38 : True := trivial
theorem L39 : True := trivial
theorem L40 : True := trivial
theorem L41 : True := trivial
theorem L42 : True := trivial
theorem L43 : True := trivial
theorem L44 : True := trivial
theorem L45 : True := trivial
theorem L46 : True := trivial
theorem L47 : True := trivial
theorem L48 : True := trivial
theorem L49 : True := trivial
theorem L50 : True := trivial
theorem L51 : True := trivial
theorem L52 : True := trivial
theorem L53 : True := trivial
theorem L54 : True := trivial
theorem L55 : True := trivial
theorem L56 : True := trivial
theorem L57 : True := trivial
theorem L58 : True := trivial
theorem L59 : True := trivial
theorem L60 : True := trivial
theorem L61 : True := trivial
theorem L62 : True := trivial
theorem L63 : True := trivial
theorem L64 : True := trivial
theorem L65 : True := trivial
theorem L66 : True := trivial
theorem L67 : True := trivial
theorem L68 : True := trivial
theorem L69 : True := trivial
theorem L70 : True := trivial
theorem L71 : True := trivial
theorem L72 : True := trivial
theorem L73 : True := trivial
theorem L74 : True := trivial
theorem L75 : True := trivial
theorem L76 : True := trivial
theorem L77 : True := trivial
theorem L78 : True := trivial
theorem L79 : True := trivial
theorem L80 : True := trivial
theorem L81 : True := trivial
theorem L82 : True := trivial
theorem L83 : True := trivial
theorem L84 : True := trivial
theorem L85 : True := trivial
theorem L86 : True := trivial
theorem L87 : True := trivial
theorem L88 : True := trivial
theorem L89 : True := trivial
theorem L90 : True := trivial
theorem L91 : True := trivial
theorem L92 : True := trivial
theorem L93 : True := trivial
theorem L94 : True := trivial
theorem L95 : True := trivial
theorem L96 : True := trivial
theorem L97 : True := trivial
theorem L98 : True := trivial
theorem L99 : True := trivial
theorem L100 : True := trivial
theorem L101 : True := trivial
theorem L102 : True := trivial
theorem L103 : True := trivial
theorem L104 : True := trivial
theorem L105 : True := trivial
theorem L106 : True := trivial
theorem L107 : True := trivial
theorem L108 : True := trivial
theorem L109 : True := trivial
theorem L110 : True := trivial
theorem L111 : True := trivial
theorem L112 : True := trivial
theorem L113 : True := trivial
theorem L114 : True := trivial
theorem L115 : True := trivial
theorem L116 : True := trivial
theorem L117 : True := trivial
theorem L118 : True := trivial
theorem L119 : True := trivial
theorem L120 : True := trivial
theorem L121 : True := trivial
theorem L122 : True := trivial
theorem L123 : True := trivial
theorem L124 : True := trivial
theorem L125 : True := trivial
theorem L126 : True := trivial
theorem L127 : True := trivial
theorem L128 : True := trivial
theorem L129 : True := trivial
theorem L130 : True := trivial
theorem L131 : True := trivial
theorem L132 : True := trivial
theorem L133 : True := trivial
theorem L134 : True := trivial
theorem L135 : True := trivial
theorem L136 : True := trivial
theorem L137 : True := trivial
theorem L138 : True := trivial
theorem L139 : True := trivial
theorem L140 : True := trivial
theorem L141 : True := trivial
theorem L142 : True := trivial
theorem L143 : True := trivial
theorem L144 : True := trivial
theorem L145 : True := trivial
theorem L146 : True := trivial
theorem L147 : True := trivial
theorem L148 : True := trivial
theorem L149 : True := trivial
theorem L150 : True := trivial
theorem L151 : True := trivial
theorem L152 : True := trivial
theorem L153 : True := trivial
theorem L154 : True := trivial
theorem L155 : True := trivial
theorem L156 : True := trivial
theorem L157 : True := trivial
theorem L158 : True := trivial
theorem L159 : True := trivial
theorem L160 : True := trivial
theorem L161 : True := trivial
theorem L162 : True := trivial
theorem L163 : True := trivial
theorem L164 : True := trivial
theorem L165 : True := trivial
theorem L166 : True := trivial
theorem L167 : True := trivial
theorem L168 : True := trivial
theorem L169 : True := trivial
theorem L170 : True := trivial
theorem L171 : True := trivial
theorem L172 : True := trivial
theorem L173 : True := trivial
theorem L174 : True := trivial
theorem L175 : True := trivial
theorem L176 : True := trivial
theorem L177 : True := trivial
theorem L178 : True := trivial
theorem L179 : True := trivial
theorem L180 : True := trivial
theorem L181 : True := trivial
theorem L182 : True := trivial
theorem L183 : True := trivial
theorem L184 : True := trivial
theorem L185 : True := trivial
theorem L186 : True := trivial
theorem L187 : True := trivial
theorem L188 : True := trivial
theorem L189 : True := trivial
theorem L190 : True := trivial
theorem L191 : True := trivial
theorem L192 : True := trivial
theorem L193 : True := trivial
theorem L194 : True := trivial
theorem L195 : True := trivial
theorem L196 : True := trivial
theorem L197 : True := trivial
theorem L198 : True := trivial
theorem L199 : True := trivial
-- STAND-INS
section XNOSUCH
def xn_l (own : String) (ic : Nat) : List Cond := Bundle.throwableAtoms ++ Bundle.throwableSAtoms ++ (Bundle.passSAtoms xn_n "java/lang/RuntimeException" 13 xn_c ++ Bundle.chainSAtoms "java/lang/RuntimeException" ["java/lang/Exception"]) ++
  ([Cond.methodLink own ic (Bundle.initS xn_n), .instantiable xn_n 6, .castable xn_n xn_n, .selects xn_n Bundle.tFill0 Bundle.tFill0, .selects xn_n Bundle.tFill Bundle.tFill,
   .lays xn_n Bundle.tN "cause" "Ljava/lang/Throwable;", .lays xn_n Bundle.tN "stackTrace" Bundle.steD, .lays xn_n Bundle.tN "suppressedExceptions" Bundle.listD, .lays xn_n Bundle.tN "detailMessage" "Ljava/lang/String;",
   .fieldLink Bundle.tN 198 Bundle.tN "backtrace" "Ljava/lang/Object;", .lays Bundle.tN Bundle.tN "backtrace" "Ljava/lang/Object;", .lays xn_n Bundle.tN "backtrace" "Ljava/lang/Object;"] : List Cond)
theorem xn_at_l (own : String) (ic : Nat) : xn_at own ic = (xn_l own ic).filter vx_no := rfl
theorem xn_d0 : decode xn_c 0 = .ok (.aload_n 0, 1) := by decide +kernel
theorem xn_d1 : decode xn_c 1 = .ok (.aload_n 1, 1) := by decide +kernel
theorem xn_d2 : decode xn_c 2 = .ok (.invokespecial 13, 3) := by decide +kernel
theorem xn_d5 : decode xn_c 5 = .ok (.return_, 1) := by decide +kernel
theorem xn_fit : Bundle.fit xn_n = true := by decide +kernel
theorem xn_fitR : Bundle.fit "java/lang/RuntimeException" = true := by decide +kernel
theorem xn_fitE : ∀ n ∈ ["java/lang/Exception"], Bundle.fit n = true := by decide +kernel
theorem xn_chain {args : Array Value} {s : State} {pl : Platform} (hpl : pl.magicAccessors = ({} : Platform).magicAccessors) {top : MethodId} (htop : s.methodNamed? (Bundle.initS Bundle.tN) = some top)
    (h : ∀ c ∈ Bundle.passSAtoms xn_n "java/lang/RuntimeException" 13 xn_c ++ Bundle.chainSAtoms "java/lang/RuntimeException" ["java/lang/Exception"], c.before args s = true) :
    ∃ (P1 : PassC) (Ps : List PassC), Ps.length = 2 ∧ P1.LinksS pl s ∧ (∀ P, P ∈ Ps → P.LinksS pl s) ∧ s.methodNamed? (Bundle.initS xn_n) = some P1.m ∧
      P1.sup = firstOf top (Ps.map (·.toPassT)) ∧ PassesOn top (Ps.map (·.toPassT)) := by
  obtain ⟨P, L, hm, hs⟩ := PassC.ofS_atoms (args := args) (s := s) hpl (X := xn_n) (Y := "java/lang/RuntimeException") (Bundle.fit_spec xn_fit).1 (Bundle.fit_spec xn_fitR).2 xn_d0 xn_d1 xn_d2 xn_d5 (fun c hc => h c (List.mem_append_left _ hc))
  obtain ⟨P2, Ps, hlen, L2, hL, hm2, hsup, hpass⟩ := Bundle.chainS (args := args) hpl htop ["java/lang/Exception"] "java/lang/RuntimeException" xn_fitR xn_fitE (fun c hc => h c (List.mem_append_right _ hc))
  refine ⟨P, P2 :: Ps, by simp [hlen], L, fun Q hQ => ?_, hm, Option.some.inj (hs.symm.trans hm2), hsup, hpass⟩
  rcases List.mem_cons.mp hQ with rfl | hQ
  · exact L2
  · exact hL Q hQ
section XNS
variable {p : Program} {l : Launch} {e : Env} {R : Room} {s : State} {m₀ : MethodId} {args : Array Value} {below : List Frame} {meth : Method} {c : Code} {W : State} {locs : List Loc} {cells slots : Nat}
set_option maxHeartbeats 1000000 in
theorem xn_ctor (X : Stand p l e R s m₀ args below meth c W locs cells slots) (hexec : p.tables.exec = Jvm.exec) (htr : e.platform.stackTraces = false) {own : String} {ic : Nat}
    (hown : s.vm.findClass own = some m₀.cls) (h : ∀ a ∈ xn_l own ic, a.before args s = true)
    (hU : (Cond.isRef (.static Bundle.tN "UNASSIGNED_STACK" Bundle.steD)).before args s = true) (hN : (Cond.isRef (.static Bundle.tN "SUPPRESSED_SENTINEL" Bundle.listD)).before args s = true)
    (hlocs : ∀ x ∈ locs, ∀ cell, s.heap[x.base]? = some cell → cell.vm.isStatics = false)
    {a : Addr} {cX : ClassId} {kX : Class} (hfoundX : s.vm.findClass xn_n = some cX) (hkX : s.vm.classes[cX]? = some kX) (hcell : W.heap[a]? = some (freshCell cX kX)) (hnew : s.heap.size ≤ a)
    {msg : Value} (hmsg : msg.isRef = true)
    {g : JFrame} (hg : g.method = m₀) (hsize : g.locals.size = c.maxLocals) (hlocked : g.locked = none) (hentered : g.entered = []) {rest : List Value} (hstack : g.stack = msg :: .ref a :: .ref a :: rest)
    (hd6 : decode c.code g.pc = .ok (.invokespecial ic, 3)) (hd9 : decode c.code (g.pc + 3) = .ok (.athrow, 1)) (hout : ∀ x ∈ c.exceptionTable.toList, covers x (g.pc + 3) = false)
    (hRframes : 5 < R.frames) (hRlocals : 2 * g.monitorRoom + ((Value.ref a :: rest).map fun v => v.category).sum + 81 ≤ R.locals) (hlocks : meth.locks = false) :
    ∃ U : State, Steps p.tables e below (W.setTop g) U ∧ U.status = .running ∧ Ended U below (.threw a) ∧ s.WarmedH U.vm ∧ s.sameButNew ({ U with vm := s.vm } : State) locs cells slots ∧
      ∃ ce, U.heap[a]? = some ce ∧ s.vm.findClass xn_n = some ce.cls ∧ ce.vm = .none := by
  have howns : e.platform.frameOwnsMonitors = true := by rw [X.admits.platform]
  have hfin : e.platform.finalization = false := by rw [X.admits.platform]
  have hpl : e.platform.magicAccessors = ({} : Platform).magicAccessors := by rw [X.admits.platform]
  have a' : ∀ x, x ∈ xn_l own ic → x.holds args s none s [] = true := fun x hx => h x hx
  obtain ⟨T, Z0, L, -, Y⟩ := ThrowableC.of_atoms (args := args) howns hfin hpl (fun x hx => h x (by simp [xn_l, hx]))
  obtain ⟨Z, M, LZ, LM, hnZ⟩ := Init0T.ofS_atoms (args := args) hpl L Y (fun x hx => h x (by simp [xn_l, hx]))
  obtain ⟨P1, Ps, hlen, L1, hL, hP1m, hlink1, hlink⟩ := xn_chain (args := args) hpl hnZ (fun x hx => h x (List.mem_append_left _ (List.mem_append_right _ hx)))
  have hfound : s.vm.findClass xn_n = some P1.m.cls := findClass_of_methodNamed hP1m
  cases Option.some.inj (hfoundX.symm.trans hfound)
  obtain ⟨c1, kX', hc1, hk, hord, -, -, hn6⟩ := Cond.instantiable_spec (a' (.instantiable xn_n 6) (by simp [xn_l]))
  cases Option.some.inj (hc1.symm.trans hfound)
  cases Option.some.inj (hkX.symm.trans hk)
  have hsel0 : selectMethod e.platform s.vm P1.m.cls T.fill0 = .method T.fill0 := by
    obtain ⟨c2, r2, m2, q1, q2, q3, q4, -⟩ := Cond.selects_spec (a' (.selects xn_n Bundle.tFill0 Bundle.tFill0) (by simp [xn_l]))
    cases Option.some.inj (q1.symm.trans hfound)
    cases Option.some.inj (q2.symm.trans (State.methodFound?_of_named Y.fill0 (by decide)))
    cases Option.some.inj (q3.symm.trans Y.fill0)
    rw [Launch.admits_selectMethod X.admits]; exact q4
  have hselF : selectMethod e.platform s.vm P1.m.cls T.fill = .method T.fill := by
    obtain ⟨c2, r2, m2, q1, q2, q3, q4, -⟩ := Cond.selects_spec (a' (.selects xn_n Bundle.tFill Bundle.tFill) (by simp [xn_l]))
    cases Option.some.inj (q1.symm.trans hfound)
    cases Option.some.inj (q2.symm.trans (State.methodFound?_of_named Y.fill (by decide)))
    cases Option.some.inj (q3.symm.trans Y.fill)
    rw [Launch.admits_selectMethod X.admits]; exact q4
  obtain ⟨cellS0, hcS0, hiss⟩ := Y.statics
  obtain ⟨u0, hu0⟩ := Cond.staticRefV Y.unassigned L.unassignedStatic L.statics hcS0 hiss hU
  obtain ⟨sen, hsen⟩ := Cond.staticRefV Y.sentinel L.sentinelStatic L.statics hcS0 hiss hN
  obtain ⟨ci198, i198, fB, hk198, hg198, ha198, hsB, -, hnB, htB, hffB⟩ := Cond.ownField (t := .object "java/lang/Object") Y.found L.cls (by decide +kernel) (a' (.fieldLink Bundle.tN 198 Bundle.tN "backtrace" "Ljava/lang/Object;") (by simp [xn_l])) (a' (.lays Bundle.tN Bundle.tN "backtrace" "Ljava/lang/Object;") (by simp [xn_l])) e.platform hpl
  obtain ⟨cellS, hcS', heS, -, hkeep⟩ := X.same.2.2.2.2.2 T.aS cellS0 hcS0
  have hcellS : W.heap[T.aS]? = some cellS := hcS'
  have hout' : ∀ i, (⟨T.aS, i⟩ : Loc) ∉ locs := fun i hmem => by
    have := hlocs _ hmem cellS0 hcS0
    rw [hiss] at this; cases this
  have hknownS : cellS.vm ≠ .unknown := by
    rw [heS]; intro hu
    rw [show cellS0.vm = .unknown from hu] at hiss
    cases hiss
  have hneS : T.aS ≠ a := Nat.ne_of_lt (Nat.lt_of_lt_of_le (Array.getElem?_eq_some_iff.mp hcS0).1 hnew)
  obtain ⟨iM, hffM⟩ := Y.msg
  obtain ⟨tyC, dC, hdC, hdnC⟩ := Cond.laysAt hfound hk Y.cause (a' (.lays xn_n Bundle.tN "cause" "Ljava/lang/Throwable;") (by simp [xn_l]))
  obtain ⟨tyS, dS, hdS, hdnS⟩ := Cond.laysAt hfound hk Y.stack (a' (.lays xn_n Bundle.tN "stackTrace" Bundle.steD) (by simp [xn_l]))
  obtain ⟨tyP, dP, hdP, hdnP⟩ := Cond.laysAt hfound hk Y.supp (a' (.lays xn_n Bundle.tN "suppressedExceptions" Bundle.listD) (by simp [xn_l]))
  obtain ⟨tyM, dM, hdM, hdnM⟩ := Cond.laysAt hfound hk hffM (a' (.lays xn_n Bundle.tN "detailMessage" "Ljava/lang/String;") (by simp [xn_l]))
  obtain ⟨tyB, dB, hdB, hdnB⟩ := Cond.laysAt hfound hk hffB (a' (.lays xn_n Bundle.tN "backtrace" "Ljava/lang/Object;") (by simp [xn_l]))
  have bC := Cond.laysApart hdB hdC hdnB hdnC (by rw [hnB, Y.causeName]; decide)
  have bS := Cond.laysApart hdB hdS hdnB hdnS (by rw [hnB, Y.stackName]; decide)
  have bP := Cond.laysApart hdB hdP hdnB hdnP (by rw [hnB, Y.suppName]; decide)
  have hskip : SkipFacts T e.platform s (fun u => u) u0 ((preparedCellV T.toThrowableT (freshCell P1.m.cls kX) a u0 sen).withEntry W.cur) :=
    ⟨{ ci198 := ci198, i198 := i198, fBack := fB }, ⟨hk198, hg198, ha198, hsB⟩, by
      have := fresh_default (c := P1.m.cls) tyB
      rw [htB] at this
      simpa [preparedCellV, Cell.setSlot, Cell.withEntry, Array.getElem?_setIfInBounds, bC, bS, bP, bC.symm, bS.symm, bP.symm, defaultValue] using this, fun _ _ => rfl⟩
  obtain ⟨tm, methC, cdC, kC, vm₁, hnC, -, -, -, -, -, -, -, hW₁, st1⟩ := Steps.initColdS (tb := p.tables) (e := e) (below := below) (s := s) (U := W) X.here hexec X.warmed hpl hown (t := Bundle.initS xn_n) rfl rfl (Bundle.fit_spec xn_fit).2
    (a' (.methodLink own ic (Bundle.initS xn_n)) (by simp [xn_l])) (h (.instanceMethod (Bundle.initS xn_n)) (by simp [xn_l, Bundle.passSAtoms])) (bytes := xn_c) (maxL := 2) (h (.code (Bundle.initS xn_n) xn_c 2 none) (by simp [xn_l, Bundle.passSAtoms]))
    (f := g) hg (a := a) (msg := msg) (rest := .ref a :: rest) hstack hd6
  cases Option.some.inj (hnC.symm.trans hP1m)
  have X₁ := X.noted hW₁
  obtain ⟨vm₂, X₂, st2⟩ := X₁.ctorMessageOffV hexec (g := { g with stack := .ref a :: rest }) hg hsize T L Z LZ M LM (P1 :: Ps)
    (fun P hP => by rcases List.mem_cons.mp hP with rfl | hP; exact L1; exact hL P hP) ⟨hlink1, hlink⟩ (u0 := u0) (sen := sen) (self := a) hmsg (cell := freshCell P1.m.cls kX) (cellS := cellS)
    hcell (fun _ => by simp) (by simp) rfl rfl hsel0 hselF hcellS hneS hknownS (by rw [hkeep _ (hout' _)]; exact hu0) (by rw [hkeep _ (hout' _)]; exact hsen)
    (Takes.of_laid hk hord tyC (by rw [Y.causeType]; rfl)) (Takes.of_laid hk hord tyS (by rw [Y.stackType]; exact fits_refV_array _ u0)) (Takes.of_laid hk hord tyP (by rw [Y.suppType]; exact fits_refV_object _ sen))
    (Takes.of_laid hk hord tyM (by rw [Y.msgType]; exact fits_refV_object _ ⟨msg, hmsg⟩)) Y.objLocals hskip htr [] hd6
    (by simp only [List.length_cons, hlen]; omega) (by simp only [List.length_cons, hlen]; exact hRlocals)
  obtain ⟨hwalk, hrun, hended, hWU, hsame⟩ := X₂.athrowLeaves hexec (g := { g with stack := .ref a :: rest, pc := g.pc + 3 }) hg hlocked hentered hout (a := a) (rest := rest) rfl hd9
  have hlt : a < ((W.setVm vm₁).setVm vm₂).heap.size := (Array.getElem?_eq_some_iff.mp hcell).1
  have hU9 := heapAt_setCell_self (s := (W.setVm vm₁).setVm vm₂) (plainBareV T.toThrowableT (freshCell P1.m.cls kX) a u0 sen msg) hlt
  refine ⟨_, st1 _ (fun acts => ?_), hrun, hended, hWU, hsame.weaken (fun y hy hlt2 => ?_) (Nat.le_refl _) (Nat.le_refl _), _, hU9, hfound, rfl⟩
  · rw [doInvoke_state]
    exact st2 _ hwalk
  · rcases List.mem_append.mp hy with h1 | h1
    · exact h1
    · exfalso
      have hb : y.base = a := by
        simp only [List.mem_cons, List.not_mem_nil, or_false] at h1
        rcases h1 with rfl | rfl | rfl | rfl | rfl <;> rfl
      rw [hb] at hlt2
      exact Nat.not_lt.mpr hnew hlt2
end XNS
section XNT
variable {G : xG} {p : Program} {l : Launch} {e : Env} {R : Room} {s : State} {m : MethodId} {args : Array Value} {below : List Frame} {meth : Method} {c : Code} {nL cells slots : Nat} {Q : State → Prop} {cc : ByteArray} {Ts : List Cond} {own : String} {pc : Nat} {lst lst2 : List (Nat × Value)} {rest : List Value} {d : xd}
def xn_bad : List Cond := [.declares (Bundle.initS "java/lang/RuntimeException"), .declares (Bundle.initS "java/lang/Exception"), .declares (Bundle.initS Bundle.tN), .castable xn_n xn_n]
theorem xn_bad_ok (C : Cx G p s m args c cc Ts own nL) : ∀ w ∈ xn_bad, w.before args s = true := x_bad_ok C (cls := "java/util/NoSuchElementException") (by decide)
theorem xn_throw {H : Heap} {locs : List Loc} {ls : Array Slot} {text : String} {ik is ic mc ms sa : Nat} {A : Nat → Prop} {free : Addr → Prop} {Qc : Array Value → State → Outcome → State → Prop} {XC : String → State → State → Prop} (hexec : p.tables.exec = Jvm.exec) (hb : c.code = cc) (hl : l.stackTraces = false)
    (hown : s.vm.findClass own = some m.cls)
    (hk : (Cond.classLink own ik xn_n).before args s = true) (hini : (Cond.initialized xn_n).before args s = true) (hstr : vk_R own is text sa s) (hat : ∀ w ∈ xn_at own ic, w.before args s = true)
    (hgood : ∀ w ∈ Cond.classLink own ik xn_n :: Cond.initialized xn_n :: xn_at own ic, vx_ot w = true)
    (hU : vx_Zq Bundle.tN "UNASSIGNED_STACK" Bundle.steD A s s.heap) (hN : vx_Zq Bundle.tN "SUPPRESSED_SENTINEL" Bundle.listD A s s.heap) (hS : va_S A s.heap H locs) (hsize : ls.size = c.maxLocals)
    (d0 : decode cc pc = .ok (.new ik, 3)) (d3 : decode cc (pc + 3) = .ok (.dup, 1)) (d4 : decode cc (pc + 4) = .ok (.ldc_w is, 3)) (d7 : decode cc (pc + 7) = .ok (.invokespecial ic, 3)) (d10 : decode cc (pc + 10) = .ok (.athrow, 1))
    (hout : ∀ x ∈ c.exceptionTable.toList, covers x (pc + 10) = false)
    (hRframes : 5 < R.frames) (hRlocals : (rest.map fun v => v.category).sum + 82 ≤ R.locals) (hRcells : cells + 1 ≤ R.cells) (hRslots : slots + 6 ≤ R.slots) (hlocks : meth.locks = false)
    (hx : ∀ t : State, s.vm.Alike t.vm → H.size ≤ t.heap.size → (∀ q : Nat, q < H.size → t.heap[q]? = H[q]?) → XC xn_n s t)
    (hf : ∀ z ∈ locs, free z.base) (hc : cells + 1 ≤ mc) (hs : slots + 6 ≤ ms) :
    W p l e R s m args below meth c H locs cells slots (vx_MQ below Qc XC args s mc ms free) (F0 m pc ls rest) := by
  intro T hT X
  have htr : e.platform.stackTraces = false := (show e.platform.stackTraces = l.stackTraces by rw [X.admits.platform]).trans hl
  have Y := vx_rebase X (R' := { frames := R.frames, locals := R.locals, cells := 1, slots := 6 }) (Nat.le_refl _) (Nat.le_refl _) hRcells hRslots
  obtain ⟨s', hA⟩ : ∃ z, z = (T.setVm s.vm).setFrames (.invoking m args :: below) := ⟨_, rfl⟩
  rw [← hA] at Y
  have hvm : s'.vm = s.vm := by rw [hA]; rfl
  have hhp : s'.heap = H := by rw [hA]; exact hT
  have hW0 : s.WarmedH s'.vm := by rw [hvm]; exact State.WarmedH.refl s
  have hat' : ∀ w ∈ xn_at own ic, w.before args s' = true := fun w hw => vx_ot_at hW0 hvm.symm (hgood w (List.mem_cons_of_mem _ (List.mem_cons_of_mem _ hw))) (hat w hw)
  have hk' : (Cond.classLink own ik xn_n).before args s' = true := vx_ot_at hW0 hvm.symm (hgood _ List.mem_cons_self) hk
  have hini' : (Cond.initialized xn_n).before args s' = true := vx_ot_at hW0 hvm.symm (hgood _ (List.mem_cons_of_mem _ List.mem_cons_self)) hini
  have hU' : vx_Zq Bundle.tN "UNASSIGNED_STACK" Bundle.steD A s' s'.heap := by rw [hhp]; exact vx_Zq.moved hW0.alike (hU.kept hS.2.1)
  have hN' : vx_Zq Bundle.tN "SUPPRESSED_SENTINEL" Bundle.listD A s' s'.heap := by rw [hhp]; exact vx_Zq.moved hW0.alike (hN.kept hS.2.1)
  have h : ∀ w ∈ xn_l own ic, w.before args s' = true := vx_own (L := xn_l own ic) hat' (vx_isRefq hU'.1) (vx_isRefq hN'.1) hU'.2.word hN'.2.word
  have hown' : s'.vm.findClass own = some m.cls := by rw [hvm]; exact hown
  have hins : (Cond.instantiable xn_n 6).before args s' = true := h _ (by simp [xn_l])
  obtain ⟨vm₁, cX, kX, hfX, hkX, -, -, X₁, st1⟩ := Y.newCold hexec (own := own) (C := xn_n) (index := ik) (n := 6) hown' hk' hins hini'
    (g := F0 m pc ls rest) rfl (by rw [hb]; exact d0) (Nat.le_refl _) (Nat.le_refl _)
  generalize hT1 : (T.setVm vm₁).pushCell { cls := cX, slots := kX.instanceTypes.map defaultValue, vm := .none } = T1 at X₁ st1
  have hcat : (Value.ref T.heap.size).category = 1 := rfl
  have hcellA : T1.heap[T.heap.size]? = some (freshCell cX kX) := by rw [← hT1]; exact State.heap_pushCell_size _ _
  have d3' : decode c.code (pc + 3) = .ok (.dup, 1) := by rw [hb]; exact d3
  have d4' : decode c.code (pc + 4) = .ok (.ldc_w is, 3) := by rw [hb]; exact d4
  have hstr' : vk_R own is text sa s' := vk_R.warm hW0 hstr
  obtain ⟨U, hsteps, hrun, hend, hW, hsame, ce, hce, hO, hOv⟩ := xn_ctor X₁ hexec htr (own := own) (ic := ic) hown' h (vx_isRefq hU'.1) (vx_isRefq hN'.1) (fun x hx => nomatch hx) hfX hkX hcellA (by rw [hhp, hT]; exact Nat.le_refl _) (msg := .ref sa) rfl
    (g := { method := m, pc := pc + 7, locals := ls, stack := .ref sa :: .ref T.heap.size :: .ref T.heap.size :: rest, locked := none }) rfl hsize rfl rfl (rest := rest) rfl
    (by rw [hb]; exact d7) (by rw [hb]; exact d10) hout hRframes (by simp only [List.map_cons, List.sum_cons, hcat]; omega) hlocks
  obtain ⟨f1, f2⟩ := vx_frame hsame
  rw [hhp] at f1 f2
  have hWs : s.WarmedH U.vm := State.WarmedH.trans hW0 hW
  have hcl : s.vm.findClass xn_n = some ce.cls := by
    have h9 := hO
    rw [hvm] at h9
    exact h9
  have hall : s.sameButNew ({ U with vm := s.vm } : State) locs mc ms := by
    subst hA
    obtain ⟨e1, e2⟩ := hsame
    rw [State.setFrames_setFrames] at e1
    have h2 : (T.setVm s.vm).sameButNew ({ U with vm := s.vm } : State) [] (0 + 1) (0 + 6) := ⟨e1, e2⟩
    have h3 := X.same.trans h2
    rw [List.append_nil] at h3
    exact h3.mono hc hs
  refine ⟨U, ?_, .threw T.heap.size, hrun, hend, Or.inr ⟨T.heap.size, rfl, xn_n, ce, locs, hx U hWs.alike f1 (fun q hq => f2 q hq (fun z hz => nomatch hz)), hce, hOv, hcl, hWs, hall, hf⟩⟩
  refine st1 _ ?_
  show Steps p.tables e below (T1.setTop { method := m, pc := pc + 3, locals := ls, stack := .ref T.heap.size :: rest, locked := none }) _
  jvm_step X₁.here [X₁.here.top, hexec, d3', Value.category]
  exact X₁.ldcStringW hexec (own := own) (text := text) (index := is) (a := sa) hown' hstr'.1 hstr'.2
    (g := { method := m, pc := pc + 4, locals := ls, stack := .ref T.heap.size :: .ref T.heap.size :: rest, locked := none }) rfl d4' _ hsteps
theorem a_throwN (C : Cx G p s m args c cc Ts own nL) (hT : ∀ x ∈ c.exceptionTable.toList, False) (hlocks : meth.locks = false) (hfl : l.stackTraces = false) {cls text : String} {ik is ic : Nat} {d2 : xd} (hmsg : ("LampCooperative", is, text) ∈ x_msgs) (ho : own = "LampCooperative") (hk : Cond.classLink own ik cls ∈ Ts) (hini : Cond.initialized cls ∈ Ts) (hat : ∀ w ∈ (xn_at own ic).filter goodWord, w ∈ Ts) (d0 : decode cc pc = .ok (.new ik, 3)) (d3 : decode cc (pc + 3) = .ok (.dup, 1)) (d4 : decode cc (pc + 4) = .ok (.ldc_w is, 3)) (d7 : decode cc (pc + 7) = .ok (.invokespecial ic, 3)) (d10 : decode cc (pc + 10) = .ok (.athrow, 1))
    (hRf : 5 < R.frames) (hRl : (rest.map fun v => v.category).sum + 82 ≤ R.locals) (hRc : cells + 1 ≤ R.cells ∧ slots + 6 ≤ R.slots) {mc2 ms2 : Nat} (hm : cells + 1 ≤ mc2 ∧ slots + 6 ≤ ms2) (hd : d = d2) (hcls : cls = xn_n := by rfl) (hng : ∀ w ∈ (xn_at own ic).filter (fun w => !goodWord w), w ∈ xn_bad := by decide +kernel) (hgood : ∀ w ∈ Cond.classLink own ik xn_n :: Cond.initialized xn_n :: xn_at own ic, vx_ot w = true := by decide +kernel) :
    Ab G p l e R s m args below meth c nL cells slots (vx_MQ below (fun _ _ _ _ => False) (x_XC G cls d2) args s mc2 ms2 (x_A G)) pc lst rest d := by
  subst hcls
  intro H locs ls hP hS hl
  obtain ⟨sa, hsa⟩ := x_msg_at C hmsg ho
  exact xn_throw C.1.1 C.1.2.1 hfl C.1.2.2.2.1 (C.1.2.2.2.2 _ hk) (C.1.2.2.2.2 _ hini) hsa (vx_hat (B := xn_bad) (fun w hw => C.1.2.2.2.2 w (hat w hw)) hng (xn_bad_ok C)) hgood (x_Uat C) (x_Nat C) hS (by rw [C.1.2.2.1]; exact hl.1) d0 d3 d4 d7 d10
    (fun x hx => (hT x hx).elim) hRf hRl hRc.1 hRc.2 hlocks (x_hx hd hP hS) hS.2.2 hm.1 hm.2
end XNT
end XNOSUCH
