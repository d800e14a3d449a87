-- STAND-INS
theorem n : True := trivial
theorem i : True := trivial
theorem k : True := trivial
theorem q : True := trivial
theorem u : True := trivial
theorem v : True := trivial
theorem w : True := trivial
theorem j : True := trivial
theorem o : True := trivial
theorem a : True := trivial
theorem b : True := trivial
theorem y : True := trivial
theorem z : True := trivial
theorem r : True := trivial
theorem t : True := trivial
theorem f : True := trivial
theorem g : True := trivial
theorem o2 : True := trivial
theorem a2 : True := trivial
theorem hlt : True := trivial
theorem hltk : True := trivial
theorem hlt3 : True := trivial
theorem hlt4 : True := trivial
theorem hn : True := trivial
theorem hq : True := trivial
theorem hm : True := trivial
theorem hi : True := trivial
theorem hi2 : True := trivial
theorem hi3 : True := trivial
theorem hk : True := trivial
theorem hj : True := trivial
theorem hb : True := trivial
theorem hs : True := trivial
theorem hw : True := trivial
theorem hx : True := trivial
theorem hz : True := trivial
theorem hv : True := trivial
theorem hr : True := trivial
theorem hc : True := trivial
theorem hu : True := trivial
theorem hp : True := trivial
theorem hl : True := trivial
theorem hh : True := trivial
theorem e : True := trivial
theorem e9 : True := trivial
theorem sh : True := trivial
theorem a0 : True := trivial
theorem c9 : True := trivial
theorem k9 : True := trivial
theorem m9 : True := trivial
theorem mm : True := trivial
theorem ha : True := trivial
theorem ho : True := trivial
theorem hS : True := trivial
theorem ha0 : True := trivial
theorem hs9 : True := trivial
theorem hk0 : True := trivial
theorem hk1 : True := trivial
theorem hk9 : True := trivial
theorem hap : True := trivial
theorem hoo : True := trivial
theorem qh : True := trivial
theorem ex : True := trivial
theorem ih : True := trivial
theorem ihk : True := trivial
theorem ih1 : True := trivial
theorem ih2 : True := trivial
theorem ih3 : True := trivial
theorem ih4 : True := trivial
theorem ihj : True := trivial
theorem st : True := trivial
theorem lst : True := trivial
theorem args0 : True := trivial
theorem hcn : True := trivial
theorem hcir : True := trivial
theorem q8 : True := trivial
theorem z8 : True := trivial
theorem h0 : True := trivial
theorem h1 : True := trivial
theorem h2 : True := trivial
theorem h3 : True := trivial
theorem h4 : True := trivial
theorem h5 : True := trivial
theorem h7 : True := trivial
theorem h10 : True := trivial
theorem h11 : True := trivial
theorem h12 : True := trivial
theorem h13 : True := trivial
theorem h14 : True := trivial
theorem h15 : True := trivial
theorem h16 : True := trivial
theorem h17 : True := trivial
theorem h18 : True := trivial
theorem h19 : True := trivial
theorem h20 : True := trivial
theorem h21 : True := trivial
theorem h22 : True := trivial
theorem h23 : True := trivial
theorem h24 : True := trivial
theorem h25 : True := trivial
theorem h26 : True := trivial
theorem h27 : True := trivial
theorem h28 : True := trivial
theorem h29 : True := trivial
theorem h30 : True := trivial
theorem h31 : True := trivial
theorem h32 : True := trivial
theorem h33 : True := trivial
theorem h34 : True := trivial
theorem h35 : True := trivial
theorem h36 : True := trivial
theorem h37 : True := trivial
theorem h38 : True := trivial
theorem h39 : True := trivial
theorem h40 : True := trivial
theorem h41 : True := trivial
theorem h42 : True := trivial
theorem h43 : True := trivial
theorem h44 : True := trivial
theorem h45 : True := trivial
theorem h46 : True := trivial
theorem h47 : True := trivial
theorem h48 : True := trivial
theorem h49 : True := trivial
theorem h50 : True := trivial
theorem h51 : True := trivial
theorem h52 : True := trivial
theorem h53 : True := trivial
theorem h54 : True := trivial
theorem h55 : True := trivial
theorem h56 : True := trivial
theorem h57 : True := trivial
theorem h58 : True := trivial
theorem h59 : True := trivial
theorem h60 : True := trivial
theorem h61 : True := trivial
theorem h62 : True := trivial
theorem h63 : True := trivial
theorem h64 : True := trivial
theorem h65 : True := trivial
theorem h66 : True := trivial
theorem h67 : True := trivial
theorem h68 : True := trivial
theorem h69 : True := trivial
theorem h70 : True := trivial
theorem h71 : True := trivial
theorem h72 : True := trivial
theorem h73 : True := trivial
theorem h74 : True := trivial
theorem h75 : True := trivial
theorem h76 : True := trivial
theorem h77 : True := trivial
theorem h78 : True := trivial
theorem h79 : True := trivial
theorem h80 : True := trivial
theorem h81 : True := trivial
theorem h82 : True := trivial
theorem h83 : True := trivial
theorem h84 : True := trivial
theorem h85 : True := trivial
theorem h86 : True := trivial
theorem h87 : True := trivial
theorem h88 : True := trivial
theorem h89 : True := trivial
theorem h90 : True := trivial
theorem h91 : True := trivial
theorem h92 : True := trivial
theorem h93 : True := trivial
theorem h94 : True := trivial
theorem h95 : True := trivial
theorem h96 : True := trivial
theorem h97 : True := trivial
theorem h98 : True := trivial
theorem h99 : True := trivial
theorem h100 : True := trivial
theorem h101 : True := trivial
theorem h102 : True := trivial
theorem h103 : True := trivial
theorem h104 : True := trivial
theorem h105 : True := trivial
theorem h106 : True := trivial
theorem h107 : True := trivial
theorem h108 : True := trivial
theorem h109 : True := trivial
theorem h110 : True := trivial
theorem h111 : True := trivial
theorem h112 : True := trivial
theorem h113 : True := trivial
theorem h114 : True := trivial
theorem h115 : True := trivial
theorem h116 : True := trivial
theorem h117 : True := trivial
theorem h118 : True := trivial
theorem h119 : True := trivial
theorem h120 : True := trivial
theorem h121 : True := trivial
theorem h122 : True := trivial
theorem h123 : True := trivial
theorem h124 : True := trivial
theorem h125 : True := trivial
theorem h126 : True := trivial
theorem h127 : True := trivial
theorem h128 : True := trivial
theorem h129 : True := trivial
theorem h130 : True := trivial
theorem h131 : True := trivial
theorem h132 : True := trivial
theorem h133 : True := trivial
theorem h134 : True := trivial
theorem h135 : True := trivial
theorem h136 : True := trivial
theorem h137 : True := trivial
theorem h138 : True := trivial
theorem h139 : True := trivial
theorem h140 : True := trivial
theorem h141 : True := trivial
theorem h142 : True := trivial
theorem h143 : True := trivial
theorem h144 : True := trivial
theorem h145 : True := trivial
theorem h146 : True := trivial
theorem h147 : True := trivial
theorem h148 : True := trivial
theorem h149 : True := trivial
theorem h150 : True := trivial
theorem h151 : True := trivial
theorem h152 : True := trivial
theorem h153 : True := trivial
theorem h154 : True := trivial
theorem h155 : True := trivial
theorem h156 : True := trivial
theorem h157 : True := trivial
theorem h158 : True := trivial
theorem h159 : True := trivial
theorem h160 : True := trivial
theorem h161 : True := trivial
theorem h162 : True := trivial
theorem h163 : True := trivial
theorem h164 : True := trivial
theorem h165 : True := trivial
theorem h166 : True := trivial
theorem h167 : True := trivial
theorem h168 : True := trivial
theorem h169 : True := trivial
theorem h170 : True := trivial
theorem h171 : True := trivial
theorem h172 : True := trivial
theorem h173 : True := trivial
theorem h174 : True := trivial
theorem h175 : True := trivial
theorem h176 : True := trivial
theorem h177 : True := trivial
theorem h178 : True := trivial
theorem h179 : True := trivial
theorem h180 : True := trivial
theorem h181 : True := trivial
theorem h182 : True := trivial
theorem h183 : True := trivial
theorem h184 : True := trivial
theorem h185 : True := trivial
theorem h186 : True := trivial
theorem h187 : True := trivial
theorem h188 : True := trivial
theorem h189 : True := trivial
theorem h190 : True := trivial
theorem h191 : True := trivial
theorem h192 : True := trivial
theorem h193 : True := trivial
theorem h194 : True := trivial
theorem h195 : True := trivial
theorem h196 : True := trivial
theorem h197 : True := trivial
theorem h198 : True := trivial
theorem h199 : True := trivial
theorem L0 : True := trivial
theorem L1 : True := trivial
theorem L2 : True := trivial
theorem L3 : True := trivial
theorem L4 : True := trivial
theorem L5 : True := trivial
theorem L6 : True := trivial
theorem L7 : True := trivial
theorem L8 : True := trivial
theorem L9 : True := trivial
theorem L10 : True := trivial
theorem L11 : True := trivial
theorem L12 : True := trivial
theorem L13 : True := trivial
theorem L14 : True := trivial
theorem L15 : True := trivial
theorem L16 : True := trivial
theorem L17 : True := trivial
theorem L18 : True := trivial
theorem L19 : True := trivial
theorem L20 : True := trivial
theorem L21 : True := trivial
theorem L22 : True := trivial
theorem L23 : True := trivial
theorem L24 : True := trivial
theorem L25 : True := trivial
theorem L26 : True := trivial
theorem L27 : True := trivial
theorem L28 : True := trivial
theorem L29 : True := trivial
theorem L30 : True := trivial
theorem L31 : True := trivial
theorem L32 : True := trivial
theorem L33 : True := trivial
theorem L34 : True := trivial
theorem L35 : True := trivial
theorem L36 : True := trivial
theorem L37 : True := trivial
theorem L38 : True := trivial
theorem L39 : True := trivial
theorem L40 : True := trivial
theorem L41 : True := trivial
theorem L42 : True := trivial
theorem L43 : True := trivial
theorem L44 : True := trivial
theorem L45 : True := trivial
theorem L46 : True := trivial
theorem L47 : True := trivial
theorem L48 : True := trivial
theorem L49 : True := trivial
theorem L50 : True := trivial
theorem L51 : True := trivial
theorem L52 : True := trivial
theorem L53 : True := trivial
theorem L54 : True := trivial
theorem L55 : True := trivial
theorem L56 : True := trivial
theorem L57 : True := trivial
theorem L58 : True := trivial
theorem L59 : True := trivial
theorem L60 : True := trivial
theorem L61 : True := trivial
theorem L62 : True := trivial
theorem L63 : True := trivial
theorem L64 : True := trivial
theorem L65 : True := trivial
theorem L66 : True := trivial
theorem L67 : True := trivial
theorem L68 : True := trivial
theorem L69 : True := trivial
theorem L70 : True := trivial
theorem L71 : True := trivial
theorem L72 : True := trivial
theorem L73 : True := trivial
theorem L74 : True := trivial
theorem L75 : True := trivial
theorem L76 : True := trivial
theorem L77 : True := trivial
theorem L78 : True := trivial
theorem L79 : True := trivial
theorem L80 : True := trivial
theorem L81 : True := trivial
theorem L82 : True := trivial
theorem L83 : True := trivial
theorem L84 : True := trivial
theorem L85 : True := trivial
theorem L86 : True := trivial
theorem L87 : True := trivial
theorem L88 : True := trivial
theorem L89 : True := trivial
theorem L90 : True := trivial
theorem L91 : True := trivial
theorem L92 : True := trivial
theorem L93 : True := trivial
theorem L94 : True := trivial
theorem L95 : True := trivial
theorem L96 : True := trivial
theorem L97 : True := trivial
theorem L98 : True := trivial
theorem L99 : True := trivial
theorem L100 : True := trivial
theorem L101 : True := trivial
theorem L102 : True := trivial
theorem L103 : True := trivial
theorem L104 : True := trivial
theorem L105 : True := trivial
theorem L106 : True := trivial
theorem L107 : True := trivial
theorem L108 : True := trivial
theorem L109 : True := trivial
theorem L110 : True := trivial
theorem L111 : True := trivial
theorem L112 : True := trivial
theorem L113 : True := trivial
theorem L114 : True := trivial
theorem L115 : True := trivial
theorem L116 : True := trivial
theorem L117 : True := trivial
theorem L118 : True := trivial
theorem L119 : True := trivial
theorem L120 : True := trivial
theorem L121 : True := trivial
theorem L122 : True := trivial
theorem L123 : True := trivial
theorem L124 : True := trivial
theorem L125 : True := trivial
theorem L126 : True := trivial
theorem L127 : True := trivial
theorem L128 : True := trivial
theorem L129 : True := trivial
theorem L130 : True := trivial
theorem L131 : True := trivial
theorem L132 : True := trivial
theorem L133 : True := trivial
theorem L134 : True := trivial
theorem L135 : True := trivial
theorem L136 : True := trivial
theorem L137 : True := trivial
theorem L138 : True := trivial
theorem L139 : True := trivial
theorem L140 : True := trivial
theorem L141 : True := trivial
theorem L142 : True := trivial
theorem L143 : True := trivial
theorem L144 : True := trivial
theorem L145 : True := trivial
theorem L146 : True := trivial
theorem L147 : True := trivial
theorem L148 : True := trivial
theorem L149 : True := trivial
theorem L150 : True := trivial
theorem L151 : True := trivial
theorem L152 : True := trivial
theorem L153 : True := trivial
theorem L154 : True := trivial
theorem L155 : True := trivial
theorem L156 : True := trivial
theorem L157 : True := trivial
theorem L158 : True := trivial
theorem L159 : True := trivial
theorem L160 : True := trivial
theorem L161 : True := trivial
theorem L162 : True := trivial
theorem L163 : True := trivial
theorem L164 : True := trivial
theorem L165 : True := trivial
theorem L166 : True := trivial
theorem L167 : True := trivial
theorem L168 : True := trivial
theorem L169 : True := trivial
theorem L170 : True := trivial
theorem L171 : True := trivial
theorem L172 : True := trivial
theorem L173 : True := trivial
theorem L174 : True := trivial
theorem L175 : True := trivial
theorem L176 : True := trivial
theorem L177 : True := trivial
theorem L178 : True := trivial
theorem L179 : True := trivial
theorem L180 : True := trivial
theorem L181 : True := trivial
theorem L182 : True := trivial
theorem L183 : True := trivial
theorem L184 : True := trivial
theorem L185 : True := trivial
theorem L186 : True := trivial
theorem L187 : True := trivial
theorem L188 : True := trivial
theorem L189 : True := trivial
theorem L190 : True := trivial
theorem L191 : True := trivial
theorem L192 : True := trivial
theorem L193 : True := trivial
theorem L194 : True := trivial
theorem L195 : True := trivial
theorem L196 : True := trivial
theorem L197 : True := trivial
theorem L198 : True := trivial
theorem L199 : True := trivial
-- STAND-INS
/-! a call of the class, then the same of the model: what a step of the script is -/
theorem o_bi0 (q : Prop) [Decidable q] : (x_bi q = 0) = ¬ q := by
  unfold x_bi
  by_cases h : q <;> simp [h]
theorem o_ix {x : Int32} {n : Nat} (hn : n < 1000) (h : 0 ≤ x ∧ x < nI n) : ∃ i, i < n ∧ x = nI i := by
  rcases pk_ix x (n := n) (by omega) with h1 | h1 | h1
  · exact absurd h.1 (k2_nle h1)
  · exact absurd h.2 (k2_nlt h1)
  · exact h1
theorem o_rng {x : Int32} {lo hi : Nat} (hh : hi < 1000000) (hl : lo ≤ hi) (h : nI lo ≤ x ∧ x ≤ nI hi) : ∃ a, lo ≤ a ∧ a ≤ hi ∧ x = nI a := by
  have h0 : ¬ x < 0 := k2_nlt (Int32.le_trans (nI_pos' (by omega)) h.1)
  obtain ⟨j, hj, rfl⟩ := nI_of2 (n := hi) (nI_toInt (by omega)) h0 h.2
  exact ⟨j, (nI_leI (by omega) (by omega)).mp h.1, hj, rfl⟩
def y_fr (d d1 : xd) : Prop := ∀ k, (k = 0 ∨ (15 ≤ k ∧ k ≤ 156) ∨ 168 ≤ k) → d1 k = d k
theorem y_at {d d1 : xd} {q z : Nat} (q8 : q < 8) (hfr : y_fr (f_rem d 1 q z) d1) : d1 176 = d 176 ∧ d1 175 = d 175 := ⟨(hfr 176 (by omega)).trans (f_rem_out (by omega) q8), (hfr 175 (by omega)).trans (f_rem_out (by omega) q8)⟩
theorem y_open {B : Nat} {d : xd} (h : y_Z B d) : ∃ n w q z, r_T B d 1 (d 176) n w ∧ d 43 1 = nI q ∧ q < 8 ∧ d 43 0 = nI z ∧ z ≤ 8 ∧ d 175 3 = nI z := by
  obtain ⟨⟨n, w, t⟩, ⟨q, z, e1, e2, e3, e4, e5, -⟩, -⟩ := h
  exact ⟨n, w, q, z, t, e1, e2, e3, e4, e5⟩
theorem y_up {B B2 : Nat} {d : xd} {o n w : Nat} {g : Nat → Int32} (t : r_T B d o g n w) (hB : B ≤ B2) : r_S B2 d o g := ⟨n, w, r_T_like t (r_rows (fun _ _ _ => rfl)) (fun _ _ => rfl) hB⟩
def y_S (l : Launch) (B : Nat) (d : xd) (y : MethodName) (ws : List Cond) (av : xG → List Value) (Es : List String) (y2 : MethodName) (ws2 : List Cond) (av2 : xG → List Value) : Prop :=
  ∃ (k : Nat) (r b : Int32) (d1 d2 : xd), k ≤ 3 ∧ y_C l y ws av Es k (.int r) d d1 ∧ (∃ lv, lv ≤ 10 ∧ ∀ G, x_M G l y2 ws2 lv 0 0 (av2 G) d1 (some (.int b)) d2) ∧ d2 175 12 = nI k ∧ (k = 0 → r = b) ∧ y_Z (B + 180) d2
def y_D (l : Launch) (B : Nat) (d : xd) (y : MethodName) (ws : List Cond) (y2 : MethodName) (ws2 : List Cond) : Prop :=
  ∃ (r : Int32) (d1 d2 : xd), (∃ lv, lv ≤ 10 ∧ ∀ G, x_M G l y ws lv 0 0 [.ref (x_b G + 0)] d (some (.int r)) d1) ∧ (∃ lv, lv ≤ 10 ∧ ∀ G, x_M G l y2 ws2 lv 0 0 [.ref (x_b G + 175)] d1 (some (.int r)) d2) ∧ y_Z (B + 180) d2
section YS
variable {l : Launch} {B : Nat} {d d1 : xd} {y y2 : MethodName} {ws ws2 : List Cond} {av av2 : xG → List Value} {Es : List String} {lv lv2 : Nat} {r b : Int32}
/-- a question that is answered -/
theorem s_q (h : y_Z B d) (hlv : lv ≤ 10) (hlv2 : lv2 ≤ 10) (hc : ∀ G, x_M G l y ws lv 0 0 (av G) d (some (.int r)) d1) (hf : y_F d d1) (hm : ∀ G, x_M G l y2 ws2 lv2 0 0 (av2 G) d1 (some (.int b)) (g_th d1 0)) (hrb : r = b) : y_S l B d y ws av Es y2 ws2 av2 :=
  ⟨0, r, b, d1, g_th d1 0, by omega, ⟨lv, hlv, Or.inl ⟨rfl, hc⟩⟩, ⟨lv2, hlv2, hm⟩, x_p_at, fun _ => hrb, y_Z_F h (y_F_trans hf (y_F_th d1 0)) (by omega)⟩
/-- a question that is refused -/
theorem s_qf (h : y_Z B d) (k : Nat) (hk1 : 1 ≤ k) (hk3 : k ≤ 3) {E : String} (hE : Es[k - 1]? = some E) (hlv : lv ≤ 10) (hlv2 : lv2 ≤ 10) (hc : ∀ G, x_X G l y ws lv (av G) d E d) {x : Int32} (hx : x = nI k) (hm : ∀ G, x_M G l y2 ws2 lv2 0 0 (av2 G) d (some (.int b)) (g_th d x)) : y_S l B d y ws av Es y2 ws2 av2 :=
  ⟨k, 0, b, d, g_th d x, hk3, ⟨lv, hlv, Or.inr ⟨E, hk1, hE, hc⟩⟩, ⟨lv2, hlv2, hm⟩, by rw [← hx]; exact x_p_at, fun h0 => by omega, y_Z_F h (y_F_th d x) (by omega)⟩
/-- a change that is refused -/
theorem s_of (h : y_Z B d) (k : Nat) (hk1 : 1 ≤ k) (hk3 : k ≤ 3) {E : String} (hE : Es[k - 1]? = some E) (hlv : lv ≤ 10) (hlv2 : lv2 ≤ 10) (hc : ∀ G, x_X G l y ws lv (av G) d E d) {x : Int32} (hx : x = nI k) (hm : ∀ G, x_M G l y2 ws2 lv2 0 0 (av2 G) d (some (.int b)) (g_kf (g_th (g_bg d) x))) : y_S l B d y ws av Es y2 ws2 av2 :=
  ⟨k, 0, b, d, _, hk3, ⟨lv, hlv, Or.inr ⟨E, hk1, hE, hc⟩⟩, ⟨lv2, hlv2, hm⟩, by rw [← hx]; exact g_kf_12 d x, fun h0 => by omega, y_Z_F h (y_F_kf d x) (by omega)⟩
theorem y_opZ {q z : Nat} {g : Nat → Int32} (h : y_Z B d) (hq : d 43 1 = nI q) (q8 : q < 8) (hz : d 43 0 = nI z) (z8 : z ≤ 8) (hfr : y_fr (f_rem d 1 q z) d1) (hs : r_S (B + 180) d1 1 g) : y_Z (B + 180) (g_kp (g_ok (g_bg d1) g) z) :=
  y_op h (by omega) hq q8 hz z8 ((hfr 0 (Or.inl rfl)).trans (f_rem_out (by omega) q8)) (fun k hk => hfr k (Or.inr hk)) hs
/-- a change that is made -/
theorem s_o {q z : Nat} {g : Nat → Int32} (h : y_Z B d) (hq : d 43 1 = nI q) (q8 : q < 8) (hz : d 43 0 = nI z) (z8 : z ≤ 8) (hfr : y_fr (f_rem d 1 q z) d1) (hs : r_S (B + 180) d1 1 g) (hlv : lv ≤ 10) (hlv2 : lv2 ≤ 10) (hc : ∀ G, x_M G l y ws lv 0 0 (av G) d (some (.int r)) d1) (hm : ∀ G, x_M G l y2 ws2 lv2 0 0 (av2 G) d1 (some (.int b)) (g_kp (g_ok (g_bg d1) g) z)) (hrb : r = b) : y_S l B d y ws av Es y2 ws2 av2 :=
  ⟨0, r, b, d1, _, by omega, ⟨lv, hlv, Or.inl ⟨rfl, hc⟩⟩, ⟨lv2, hlv2, hm⟩, y_op_12, fun _ => hrb, y_opZ h hq q8 hz z8 hfr hs⟩
end YS
/-! what the class refuses -/
section OR
variable {d : xd} {n : Nat}
theorem o_ra (a b : Int32) (hn : d 2 0 = nI n) (h8 : n ≤ 8) : (f_ra d 1 a b = 0 ∧ (0 ≤ a ∧ a ≤ 3) ∧ (1 ≤ b ∧ b ≤ 9) ∧ n < 8) ∨ (f_ra d 1 a b = 2 ∧ (¬ (0 ≤ a ∧ a ≤ 3) ∨ ¬ (1 ≤ b ∧ b ≤ 9))) ∨ (f_ra d 1 a b = 3 ∧ (0 ≤ a ∧ a ≤ 3) ∧ (1 ≤ b ∧ b ≤ 9) ∧ n = 8) := by
  unfold f_ra
  simp only [o_bi0]
  by_cases ha : 0 ≤ a ∧ a ≤ 3
  · by_cases hb : 1 ≤ b ∧ b ≤ 9
    · rw [if_neg (fun q => q ha), if_neg (fun q => q hb)]
      by_cases h : n < 8
      · exact Or.inl ⟨if_pos (by show d 2 0 < 8; rw [hn]; exact nI_lt (b := 8) h (by omega)), ha, hb, h⟩
      · have e : n = 8 := by omega
        subst e
        exact Or.inr (Or.inr ⟨if_neg (by show ¬ d 2 0 < 8; rw [hn]; decide), ha, hb, rfl⟩)
    · exact Or.inr (Or.inl ⟨by rw [if_neg (fun q => q ha), if_pos hb], Or.inr hb⟩)
  · exact Or.inr (Or.inl ⟨by rw [if_pos ha], Or.inl ha⟩)
theorem o_rd (x : Int32) (hn : d 2 0 = nI n) (h8 : n ≤ 8) : (f_rd d 1 x = 0 ∧ ∃ i, i < n ∧ x = nI i ∧ d 14 1 + d 8 i ≤ 99) ∨ (f_rd d 1 x = 1 ∧ ¬ (0 ≤ x ∧ x < nI n)) ∨ (f_rd d 1 x = 3 ∧ ∃ i, i < n ∧ x = nI i ∧ ¬ d 14 1 + d 8 i ≤ 99) := by
  unfold f_rd
  simp only [o_bi0]
  show (ite (¬ (0 ≤ x ∧ x < d 2 0)) _ _ = _ ∧ _) ∨ (ite (¬ (0 ≤ x ∧ x < d 2 0)) _ _ = _ ∧ _) ∨ (ite (¬ (0 ≤ x ∧ x < d 2 0)) _ _ = _ ∧ _)
  rw [hn]
  by_cases hx : 0 ≤ x ∧ x < nI n
  · obtain ⟨i, hi, rfl⟩ := o_ix (by omega) hx
    rw [if_neg (fun q => q hx), nI_clamp (by omega)]
    by_cases h : d 14 1 + d 8 i ≤ 99
    · exact Or.inl ⟨if_pos h, i, hi, rfl, h⟩
    · exact Or.inr (Or.inr ⟨if_neg h, i, hi, rfl, h⟩)
  · exact Or.inr (Or.inl ⟨if_pos hx, hx⟩)
theorem o_rl (x v hi9 : Int32) (hn : d 2 0 = nI n) (h8 : n ≤ 8) : (f_rl d 1 x v hi9 = 0 ∧ (∃ i, i < n ∧ x = nI i) ∧ (1 ≤ v ∧ v ≤ hi9)) ∨ (f_rl d 1 x v hi9 = 1 ∧ ¬ (0 ≤ x ∧ x < nI n)) ∨ (f_rl d 1 x v hi9 = 2 ∧ (∃ i, i < n ∧ x = nI i) ∧ ¬ (1 ≤ v ∧ v ≤ hi9)) := by
  unfold f_rl
  simp only [o_bi0]
  show (ite (¬ (0 ≤ x ∧ x < d 2 0)) _ _ = _ ∧ _) ∨ (ite (¬ (0 ≤ x ∧ x < d 2 0)) _ _ = _ ∧ _) ∨ (ite (¬ (0 ≤ x ∧ x < d 2 0)) _ _ = _ ∧ _)
  rw [hn]
  by_cases hx : 0 ≤ x ∧ x < nI n
  · have hi := o_ix (by omega) hx
    rw [if_neg (fun q => q hx)]
    by_cases h : 1 ≤ v ∧ v ≤ hi9
    · exact Or.inl ⟨if_neg (fun q => q h), hi, h⟩
    · exact Or.inr (Or.inr ⟨if_pos h, hi, h⟩)
  · exact Or.inr (Or.inl ⟨if_pos hx, hx⟩)
theorem o_rdel (a : Int32) (hn : d 2 0 = nI n) (h8 : n ≤ 8) : (f_rdel d 1 a = 0 ∧ (1 ≤ a ∧ a ≤ 200) ∧ 1 ≤ n) ∨ (f_rdel d 1 a = 2 ∧ ¬ (1 ≤ a ∧ a ≤ 200)) ∨ (f_rdel d 1 a = 3 ∧ (1 ≤ a ∧ a ≤ 200) ∧ n = 0) := by
  unfold f_rdel
  simp only [o_bi0]
  by_cases ha : 1 ≤ a ∧ a ≤ 200
  · rw [if_neg (fun q => q ha)]
    show (ite (d 2 0 = 0) _ _ = _ ∧ _) ∨ _ ∨ (ite (d 2 0 = 0) _ _ = _ ∧ _)
    rw [hn]
    by_cases h : n = 0
    · subst h
      exact Or.inr (Or.inr ⟨if_pos rfl, ha, rfl⟩)
    · exact Or.inl ⟨if_neg (nI_ne0 (by omega) (by omega)), ha, by omega⟩
  · exact Or.inr (Or.inl ⟨if_pos ha, ha⟩)
theorem o_rdon (u : Int32) : (f_rdon d 1 u = 0 ∧ (1 ≤ u ∧ u ≤ 50) ∧ d 14 1 + u ≤ 99) ∨ (f_rdon d 1 u = 2 ∧ ¬ (1 ≤ u ∧ u ≤ 50)) ∨ (f_rdon d 1 u = 3 ∧ (1 ≤ u ∧ u ≤ 50) ∧ ¬ d 14 1 + u ≤ 99) := by
  unfold f_rdon
  simp only [o_bi0]
  by_cases ha : 1 ≤ u ∧ u ≤ 50
  · rw [if_neg (fun q => q ha)]
    by_cases h : d 14 1 + u ≤ 99
    · exact Or.inl ⟨if_pos h, ha, h⟩
    · exact Or.inr (Or.inr ⟨if_neg h, ha, h⟩)
  · exact Or.inr (Or.inl ⟨if_pos ha, ha⟩)
theorem o_rgive (x u : Int32) (hn : d 2 0 = nI n) (h8 : n ≤ 8) : (f_rgive d 1 x u = 0 ∧ ∃ i, i < n ∧ x = nI i ∧ (1 ≤ u ∧ u ≤ 9) ∧ ¬ d 14 1 < u ∧ ¬ 9 < d 8 i + u) ∨ (f_rgive d 1 x u = 1 ∧ ¬ (0 ≤ x ∧ x < nI n)) ∨ (f_rgive d 1 x u = 2 ∧ (∃ i, i < n ∧ x = nI i) ∧ ¬ (1 ≤ u ∧ u ≤ 9)) ∨ (f_rgive d 1 x u = 3 ∧ ∃ i, i < n ∧ x = nI i ∧ (1 ≤ u ∧ u ≤ 9) ∧ (d 14 1 < u ∨ 9 < d 8 i + u)) := by
  unfold f_rgive
  rcases o_rl x u 9 hn h8 with ⟨h0, ⟨i, hi, rfl⟩, hv⟩ | ⟨h0, hx⟩ | ⟨h0, hi, hv⟩
  · rw [if_pos h0, nI_clamp (by omega)]
    show (ite (d 14 1 < u) _ (ite (9 < d 8 i + u) _ _) = _ ∧ _) ∨ (ite (d 14 1 < u) _ (ite (9 < d 8 i + u) _ _) = _ ∧ _) ∨ (ite (d 14 1 < u) _ (ite (9 < d 8 i + u) _ _) = _ ∧ _) ∨ (ite (d 14 1 < u) _ (ite (9 < d 8 i + u) _ _) = _ ∧ _)
    by_cases h1 : d 14 1 < u
    · exact Or.inr (Or.inr (Or.inr ⟨if_pos h1, i, hi, rfl, hv, Or.inl h1⟩))
    · rw [if_neg h1]
      by_cases h2 : 9 < d 8 i + u
      · exact Or.inr (Or.inr (Or.inr ⟨if_pos h2, i, hi, rfl, hv, Or.inr h2⟩))
      · exact Or.inl ⟨if_neg h2, i, hi, rfl, hv, h1, h2⟩
  · exact Or.inr (Or.inl ⟨by rw [h0]; rfl, hx⟩)
  · exact Or.inr (Or.inr (Or.inl ⟨by rw [h0]; rfl, hi, hv⟩))
theorem o_rret (x u : Int32) (hn : d 2 0 = nI n) (h8 : n ≤ 8) : (f_rret d 1 x u = 0 ∧ ∃ i, i < n ∧ x = nI i ∧ (1 ≤ u ∧ u ≤ 9) ∧ ¬ d 8 i < u ∧ ¬ 99 < d 14 1 + u) ∨ (f_rret d 1 x u = 1 ∧ ¬ (0 ≤ x ∧ x < nI n)) ∨ (f_rret d 1 x u = 2 ∧ (∃ i, i < n ∧ x = nI i) ∧ ¬ (1 ≤ u ∧ u ≤ 9)) ∨ (f_rret d 1 x u = 3 ∧ ∃ i, i < n ∧ x = nI i ∧ (1 ≤ u ∧ u ≤ 9) ∧ (d 8 i < u ∨ 99 < d 14 1 + u)) := by
  unfold f_rret
  rcases o_rl x u 9 hn h8 with ⟨h0, ⟨i, hi, rfl⟩, hv⟩ | ⟨h0, hx⟩ | ⟨h0, hi, hv⟩
  · rw [if_pos h0, nI_clamp (by omega)]
    show (ite (d 8 i < u) _ (ite (99 < d 14 1 + u) _ _) = _ ∧ _) ∨ (ite (d 8 i < u) _ (ite (99 < d 14 1 + u) _ _) = _ ∧ _) ∨ (ite (d 8 i < u) _ (ite (99 < d 14 1 + u) _ _) = _ ∧ _) ∨ (ite (d 8 i < u) _ (ite (99 < d 14 1 + u) _ _) = _ ∧ _)
    by_cases h1 : d 8 i < u
    · exact Or.inr (Or.inr (Or.inr ⟨if_pos h1, i, hi, rfl, hv, Or.inl h1⟩))
    · rw [if_neg h1]
      by_cases h2 : 99 < d 14 1 + u
      · exact Or.inr (Or.inr (Or.inr ⟨if_pos h2, i, hi, rfl, hv, Or.inr h2⟩))
      · exact Or.inl ⟨if_neg h2, i, hi, rfl, hv, h1, h2⟩
  · exact Or.inr (Or.inl ⟨by rw [h0]; rfl, hx⟩)
  · exact Or.inr (Or.inr (Or.inl ⟨by rw [h0]; rfl, hi, hv⟩))
theorem o_rbuy (x u : Int32) (hn : d 2 0 = nI n) (h8 : n ≤ 8) : (f_rbuy d 1 x u = 0 ∧ ∃ i, i < n ∧ x = nI i ∧ (1 ≤ u ∧ u ≤ 60) ∧ ¬ d 14 0 < u ∧ ¬ 60 - d 7 i < u ∧ ¬ d 9 i < u) ∨ (f_rbuy d 1 x u = 1 ∧ ¬ (0 ≤ x ∧ x < nI n)) ∨ (f_rbuy d 1 x u = 2 ∧ (∃ i, i < n ∧ x = nI i) ∧ ¬ (1 ≤ u ∧ u ≤ 60)) ∨ (f_rbuy d 1 x u = 3 ∧ ∃ i, i < n ∧ x = nI i ∧ (1 ≤ u ∧ u ≤ 60) ∧ (d 14 0 < u ∨ 60 - d 7 i < u ∨ d 9 i < u)) := by
  unfold f_rbuy
  rcases o_rl x u 60 hn h8 with ⟨h0, ⟨i, hi, rfl⟩, hv⟩ | ⟨h0, hx⟩ | ⟨h0, hi, hv⟩
  · rw [if_pos h0, nI_clamp (by omega)]
    show (ite (d 14 0 < u) _ (ite (60 - d 7 i < u) _ (ite (d 9 i < u) _ _)) = _ ∧ _) ∨ (ite (d 14 0 < u) _ (ite (60 - d 7 i < u) _ (ite (d 9 i < u) _ _)) = _ ∧ _) ∨ (ite (d 14 0 < u) _ (ite (60 - d 7 i < u) _ (ite (d 9 i < u) _ _)) = _ ∧ _) ∨ (ite (d 14 0 < u) _ (ite (60 - d 7 i < u) _ (ite (d 9 i < u) _ _)) = _ ∧ _)
    by_cases h1 : d 14 0 < u
    · exact Or.inr (Or.inr (Or.inr ⟨if_pos h1, i, hi, rfl, hv, Or.inl h1⟩))
    · rw [if_neg h1]
      by_cases h2 : 60 - d 7 i < u
      · exact Or.inr (Or.inr (Or.inr ⟨if_pos h2, i, hi, rfl, hv, Or.inr (Or.inl h2)⟩))
      · rw [if_neg h2]
        by_cases h3 : d 9 i < u
        · exact Or.inr (Or.inr (Or.inr ⟨if_pos h3, i, hi, rfl, hv, Or.inr (Or.inr h3)⟩))
        · exact Or.inl ⟨if_neg h3, i, hi, rfl, hv, h1, h2, h3⟩
  · exact Or.inr (Or.inl ⟨by rw [h0]; rfl, hx⟩)
  · exact Or.inr (Or.inr (Or.inl ⟨by rw [h0]; rfl, hi, hv⟩))
theorem o_rpay (hn : d 2 0 = nI n) (h8 : n ≤ 8) : (f_rpay d 1 = 0 ∧ 1 ≤ n ∧ ¬ d 14 2 = 0) ∨ (f_rpay d 1 = 3 ∧ (n = 0 ∨ d 14 2 = 0)) := by
  unfold f_rpay
  show (ite (d 2 0 = 0) _ (ite (d 14 2 = 0) _ _) = _ ∧ _) ∨ (ite (d 2 0 = 0) _ (ite (d 14 2 = 0) _ _) = _ ∧ _)
  rw [hn]
  by_cases h : n = 0
  · subst h
    exact Or.inr ⟨if_pos rfl, Or.inl rfl⟩
  · rw [if_neg (nI_ne0 (by omega) (by omega))]
    by_cases h2 : d 14 2 = 0
    · exact Or.inr ⟨if_pos h2, Or.inr h2⟩
    · exact Or.inl ⟨if_neg h2, by omega, h2⟩
theorem o_rpor (x a : Int32) (hn : d 2 0 = nI n) (h8 : n ≤ 8) : (f_rpor d 1 x a = 0 ∧ (∃ i, i < n ∧ x = nI i) ∧ (0 ≤ a ∧ a ≤ 999)) ∨ (f_rpor d 1 x a = 1 ∧ ¬ (0 ≤ x ∧ x < nI n)) ∨ (f_rpor d 1 x a = 2 ∧ (∃ i, i < n ∧ x = nI i) ∧ ¬ (0 ≤ a ∧ a ≤ 999)) := by
  unfold f_rpor
  simp only [o_bi0]
  show (ite (¬ (0 ≤ x ∧ x < d 2 0)) _ _ = _ ∧ _) ∨ (ite (¬ (0 ≤ x ∧ x < d 2 0)) _ _ = _ ∧ _) ∨ (ite (¬ (0 ≤ x ∧ x < d 2 0)) _ _ = _ ∧ _)
  rw [hn]
  by_cases hx : 0 ≤ x ∧ x < nI n
  · have hi := o_ix (by omega) hx
    rw [if_neg (fun q => q hx)]
    by_cases h : 0 ≤ a ∧ a ≤ 999
    · exact Or.inl ⟨if_neg (fun q => q h), hi, h⟩
    · exact Or.inr (Or.inr ⟨if_pos h, hi, h⟩)
  · exact Or.inr (Or.inl ⟨if_pos hx, hx⟩)
theorem o_ram {w : Nat} (x : Int32) (hn : d 2 0 = nI n) (h8 : n ≤ 8) (hw : d 10 0 = nI w) (h6 : w ≤ 6) : (f_ram d 1 x = 0 ∧ (∃ i, i < n ∧ x = nI i) ∧ w < 6) ∨ (f_ram d 1 x = 1 ∧ ¬ (0 ≤ x ∧ x < nI n)) ∨ (f_ram d 1 x = 3 ∧ (∃ i, i < n ∧ x = nI i) ∧ w = 6) := by
  unfold f_ram
  simp only [o_bi0]
  show (ite (¬ (0 ≤ x ∧ x < d 2 0)) _ (ite (d 10 0 < 6) _ _) = _ ∧ _) ∨ (ite (¬ (0 ≤ x ∧ x < d 2 0)) _ (ite (d 10 0 < 6) _ _) = _ ∧ _) ∨ (ite (¬ (0 ≤ x ∧ x < d 2 0)) _ (ite (d 10 0 < 6) _ _) = _ ∧ _)
  rw [hn, hw]
  by_cases hx : 0 ≤ x ∧ x < nI n
  · have hi := o_ix (by omega) hx
    rw [if_neg (fun q => q hx)]
    by_cases h : w < 6
    · exact Or.inl ⟨if_pos (nI_lt (b := 6) h (by omega)), hi, h⟩
    · have e : w = 6 := by omega
      subst e
      exact Or.inr (Or.inr ⟨if_neg (by decide), hi, rfl⟩)
  · exact Or.inr (Or.inl ⟨if_pos hx, hx⟩)
theorem o_rpro (x : Int32) (hn : d 2 0 = nI n) (h8 : n ≤ 8) : (f_rpro d 1 x = 0 ∧ (1 ≤ x ∧ x ≤ 5) ∧ 1 ≤ n) ∨ (f_rpro d 1 x = 2 ∧ ¬ (1 ≤ x ∧ x ≤ 5)) ∨ (f_rpro d 1 x = 3 ∧ (1 ≤ x ∧ x ≤ 5) ∧ n = 0) := by
  unfold f_rpro
  simp only [o_bi0]
  by_cases ha : 1 ≤ x ∧ x ≤ 5
  · rw [if_neg (fun q => q ha)]
    show (ite (d 2 0 = 0) _ _ = _ ∧ _) ∨ _ ∨ (ite (d 2 0 = 0) _ _ = _ ∧ _)
    rw [hn]
    by_cases h : n = 0
    · subst h
      exact Or.inr (Or.inr ⟨if_pos rfl, ha, rfl⟩)
    · exact Or.inl ⟨if_neg (nI_ne0 (by omega) (by omega)), ha, by omega⟩
  · exact Or.inr (Or.inl ⟨if_pos ha, ha⟩)
end OR
