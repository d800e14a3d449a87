-- STAND-INS
theorem n : True := trivial
theorem i : True := trivial
theorem k : True := trivial
theorem q : True := trivial
theorem u : True := trivial
theorem v : True := trivial
theorem w : True := trivial
theorem j : True := trivial
theorem o : True := trivial
theorem a : True := trivial
theorem b : True := trivial
theorem y : True := trivial
theorem z : True := trivial
theorem r : True := trivial
theorem t : True := trivial
theorem f : True := trivial
theorem g : True := trivial
theorem o2 : True := trivial
theorem a2 : True := trivial
theorem hlt : True := trivial
theorem hltk : True := trivial
theorem hlt3 : True := trivial
theorem hlt4 : True := trivial
theorem hn : True := trivial
theorem hq : True := trivial
theorem hm : True := trivial
theorem hi : True := trivial
theorem hi2 : True := trivial
theorem hi3 : True := trivial
theorem hk : True := trivial
theorem hj : True := trivial
theorem hb : True := trivial
theorem hs : True := trivial
theorem hw : True := trivial
theorem hx : True := trivial
theorem hz : True := trivial
theorem hv : True := trivial
theorem hr : True := trivial
theorem hc : True := trivial
theorem hu : True := trivial
theorem hp : True := trivial
theorem hl : True := trivial
theorem hh : True := trivial
theorem e : True := trivial
theorem e9 : True := trivial
theorem sh : True := trivial
theorem a0 : True := trivial
theorem c9 : True := trivial
theorem k9 : True := trivial
theorem m9 : True := trivial
theorem mm : True := trivial
theorem ha : True := trivial
theorem ho : True := trivial
theorem hS : True := trivial
theorem ha0 : True := trivial
theorem hs9 : True := trivial
theorem hk0 : True := trivial
theorem hk1 : True := trivial
theorem hk9 : True := trivial
theorem hap : True := trivial
theorem hoo : True := trivial
theorem qh : True := trivial
theorem ex : True := trivial
theorem ih : True := trivial
theorem ihk : True := trivial
theorem ih1 : True := trivial
theorem ih2 : True := trivial
theorem ih3 : True := trivial
theorem ih4 : True := trivial
theorem ihj : True := trivial
theorem st : True := trivial
theorem lst : True := trivial
theorem args0 : True := trivial
theorem hcn : True := trivial
theorem hcir : True := trivial
theorem q8 : True := trivial
theorem z8 : True := trivial
theorem h0 : True := trivial
theorem h1 : True := trivial
theorem h2 : True := trivial
theorem h3 : True := trivial
theorem h4 : True := trivial
theorem h5 : True := trivial
theorem h7 : True := trivial
theorem h10 : True := trivial
theorem h11 : True := trivial
theorem h12 : True := trivial
theorem h13 : True := trivial
theorem h14 : True := trivial
theorem h15 : True := trivial
theorem h16 : True := trivial
theorem h17 : True := trivial
theorem h18 : True := trivial
theorem h19 : True := trivial
theorem h20 : True := trivial
theorem h21 : True := trivial
theorem h22 : True := trivial
theorem h23 : True := trivial
theorem h24 : True := trivial
theorem h25 : True := trivial
theorem h26 : True := trivial
theorem h27 : True := trivial
theorem h28 : True := trivial
theorem h29 : True := trivial
theorem h30 : True := trivial
theorem h31 : True := trivial
theorem h32 : True := trivial
theorem h33 : True := trivial
theorem h34 : True := trivial
theorem h35 : True := trivial
theorem h36 : True := trivial
theorem h37 : True := trivial
theorem h38 : True := trivial
theorem h39 : True := trivial
theorem h40 : True := trivial
theorem h41 : True := trivial
theorem h42 : True := trivial
theorem h43 : True := trivial
theorem h44 : True := trivial
theorem h45 : True := trivial
theorem h46 : True := trivial
theorem h47 : True := trivial
theorem h48 : True := trivial
theorem h49 : True := trivial
theorem h50 : True := trivial
theorem h51 : True := trivial
theorem h52 : True := trivial
theorem h53 : True := trivial
theorem h54 : True := trivial
theorem h55 : True := trivial
theorem h56 : True := trivial
theorem h57 : True := trivial
theorem h58 : True := trivial
theorem h59 : True := trivial
theorem h60 : True := trivial
theorem h61 : True := trivial
theorem h62 : True := trivial
theorem h63 : True := trivial
theorem h64 : True := trivial
theorem h65 : True := trivial
theorem h66 : True := trivial
theorem h67 : True := trivial
theorem h68 : True := trivial
theorem h69 : True := trivial
theorem h70 : True := trivial
theorem h71 : True := trivial
theorem h72 : True := trivial
theorem h73 : True := trivial
theorem h74 : True := trivial
theorem h75 : True := trivial
theorem h76 : True := trivial
theorem h77 : True := trivial
theorem h78 : True := trivial
theorem h79 : True := trivial
theorem h80 : True := trivial
theorem h81 : True := trivial
theorem h82 : True := trivial
theorem h83 : True := trivial
theorem h84 : True := trivial
theorem h85 : True := trivial
theorem h86 : True := trivial
theorem h87 : True := trivial
theorem h88 : True := trivial
theorem h89 : True := trivial
theorem h90 : True := trivial
theorem h91 : True := trivial
theorem h92 : True := trivial
theorem h93 : True := trivial
theorem h94 : True := trivial
theorem h95 : True := trivial
theorem h96 : True := trivial
theorem h97 : True := trivial
theorem h98 : True := trivial
theorem h99 : True := trivial
theorem h100 : True := trivial
theorem h101 : True := trivial
theorem h102 : True := trivial
theorem h103 : True := trivial
theorem h104 : True := trivial
theorem h105 : True := trivial
theorem h106 : True := trivial
theorem h107 : True := trivial
theorem h108 : True := trivial
theorem h109 : True := trivial
theorem h110 : True := trivial
theorem h111 : True := trivial
theorem h112 : True := trivial
theorem h113 : True := trivial
theorem h114 : True := trivial
theorem h115 : True := trivial
theorem h116 : True := trivial
theorem h117 : True := trivial
theorem h118 : True := trivial
theorem h119 : True := trivial
theorem h120 : True := trivial
theorem h121 : True := trivial
theorem h122 : True := trivial
theorem h123 : True := trivial
theorem h124 : True := trivial
theorem h125 : True := trivial
theorem h126 : True := trivial
theorem h127 : True := trivial
theorem h128 : True := trivial
theorem h129 : True := trivial
theorem h130 : True := trivial
theorem h131 : True := trivial
theorem h132 : True := trivial
theorem h133 : True := trivial
theorem h134 : True := trivial
theorem h135 : True := trivial
theorem h136 : True := trivial
theorem h137 : True := trivial
theorem h138 : True := trivial
theorem h139 : True := trivial
theorem h140 : True := trivial
theorem h141 : True := trivial
theorem h142 : True := trivial
theorem h143 : True := trivial
theorem h144 : True := trivial
theorem h145 : True := trivial
theorem h146 : True := trivial
theorem h147 : True := trivial
theorem h148 : True := trivial
theorem h149 : True := trivial
theorem h150 : True := trivial
theorem h151 : True := trivial
theorem h152 : True := trivial
theorem h153 : True := trivial
theorem h154 : True := trivial
theorem h155 : True := trivial
theorem h156 : True := trivial
theorem h157 : True := trivial
theorem h158 : True := trivial
theorem h159 : True := trivial
theorem h160 : True := trivial
theorem h161 : True := trivial
theorem h162 : True := trivial
theorem h163 : True := trivial
theorem h164 : True := trivial
theorem h165 : True := trivial
theorem h166 : True := trivial
theorem h167 : True := trivial
theorem h168 : True := trivial
theorem h169 : True := trivial
theorem h170 : True := trivial
theorem h171 : True := trivial
theorem h172 : True := trivial
theorem h173 : True := trivial
theorem h174 : True := trivial
theorem h175 : True := trivial
theorem h176 : True := trivial
theorem h177 : True := trivial
theorem h178 : True := trivial
theorem h179 : True := trivial
theorem h180 : True := trivial
theorem h181 : True := trivial
theorem h182 : True := trivial
theorem h183 : True := trivial
theorem h184 : True := trivial
theorem h185 : True := trivial
theorem h186 : True := trivial
theorem h187 : True := trivial
theorem h188 : True := trivial
theorem h189 : True := trivial
theorem h190 : True := trivial
theorem h191 : True := trivial
theorem h192 : True := trivial
theorem h193 : True := trivial
theorem h194 : True := trivial
theorem h195 : True := trivial
theorem h196 : True := trivial
theorem h197 : True := trivial
theorem h198 : True := trivial
theorem h199 : True := trivial
theorem L0 : True := trivial
theorem L1 : True := trivial
theorem L2 : True := trivial
theorem L3 : True := trivial
theorem L4 : True := trivial
theorem L5 : True := trivial
theorem L6 : True := trivial
theorem L7 : True := trivial
theorem L8 : True := trivial
theorem L9 : True := trivial
theorem L10 : True := trivial
theorem L11 : True := trivial
theorem L12 : True := trivial
theorem L13 : True := trivial
theorem L14 : True := trivial
theorem L15 : True := trivial
theorem L16 : True := trivial
theorem L17 : True := trivial
theorem L18 : True := trivial
theorem L19 : True := trivial
theorem L20 : True := trivial
theorem L21 : True := trivial
theorem L22 : True := trivial
theorem L23 : True := trivial
theorem L24 : True := trivial
theorem L25 : True := trivial
theorem L26 : True := trivial
theorem L27 : True := trivial
theorem L28 : True := trivial
theorem L29 : True := trivial
theorem L30 : True := trivial
theorem L31 : True := trivial
theorem L32 : True := trivial
theorem L33 : True := trivial
theorem L34 : True := trivial
theorem L35 : True := trivial
theorem L36 : True := trivial
theorem L37 : True := trivial
theorem L38 : True := trivial
theorem L39 : True := trivial
theorem L40 : True := trivial
theorem L41 : True := trivial
theorem L42 : True := trivial
theorem L43 : True := trivial
theorem L44 : True := trivial
theorem L45 : True := trivial
theorem L46 : True := trivial
theorem L47 : True := trivial
theorem L48 : True := trivial
theorem L49 : True := trivial
theorem L50 : True := trivial
theorem L51 : True := trivial
theorem L52 : True := trivial
theorem L53 : True := trivial
theorem L54 : True := trivial
theorem L55 : True := trivial
theorem L56 : True := trivial
theorem L57 : True := trivial
theorem L58 : True := trivial
theorem L59 : True := trivial
theorem L60 : True := trivial
theorem L61 : True := trivial
theorem L62 : True := trivial
theorem L63 : True := trivial
theorem L64 : True := trivial
theorem L65 : True := trivial
theorem L66 : True := trivial
theorem L67 : True := trivial
theorem L68 : True := trivial
theorem L69 : True := trivial
theorem L70 : True := trivial
theorem L71 : True := trivial
theorem L72 : True := trivial
theorem L73 : True := trivial
theorem L74 : True := trivial
theorem L75 : True := trivial
theorem L76 : True := trivial
theorem L77 : True := trivial
theorem L78 : True := trivial
theorem L79 : True := trivial
theorem L80 : True := trivial
theorem L81 : True := trivial
theorem L82 : True := trivial
theorem L83 : True := trivial
theorem L84 : True := trivial
theorem L85 : True := trivial
theorem L86 : True := trivial
theorem L87 : True := trivial
theorem L88 : True := trivial
theorem L89 : True := trivial
theorem L90 : True := trivial
theorem L91 : True := trivial
theorem L92 : True := trivial
theorem L93 : True := trivial
theorem L94 : True := trivial
theorem L95 : True := trivial
theorem L96 : True := trivial
theorem L97 : True := trivial
theorem L98 : True := trivial
theorem L99 : True := trivial
theorem L100 : True := trivial
theorem L101 : True := trivial
theorem L102 : True := trivial
theorem L103 : True := trivial
theorem L104 : True := trivial
theorem L105 : True := trivial
theorem L106 : True := trivial
theorem L107 : True := trivial
theorem L108 : True := trivial
theorem L109 : True := trivial
theorem L110 : True := trivial
theorem L111 : True := trivial
theorem L112 : True := trivial
theorem L113 : True := trivial
theorem L114 : True := trivial
theorem L115 : True := trivial
theorem L116 : True := trivial
theorem L117 : True := trivial
theorem L118 : True := trivial
theorem L119 : True := trivial
theorem L120 : True := trivial
theorem L121 : True := trivial
theorem L122 : True := trivial
theorem L123 : True := trivial
theorem L124 : True := trivial
theorem L125 : True := trivial
theorem L126 : True := trivial
theorem L127 : True := trivial
theorem L128 : True := trivial
theorem L129 : True := trivial
theorem L130 : True := trivial
theorem L131 : True := trivial
theorem L132 : True := trivial
theorem L133 : True := trivial
theorem L134 : True := trivial
theorem L135 : True := trivial
theorem L136 : True := trivial
theorem L137 : True := trivial
theorem L138 : True := trivial
theorem L139 : True := trivial
theorem L140 : True := trivial
theorem L141 : True := trivial
theorem L142 : True := trivial
theorem L143 : True := trivial
theorem L144 : True := trivial
theorem L145 : True := trivial
theorem L146 : True := trivial
theorem L147 : True := trivial
theorem L148 : True := trivial
theorem L149 : True := trivial
theorem L150 : True := trivial
theorem L151 : True := trivial
theorem L152 : True := trivial
theorem L153 : True := trivial
theorem L154 : True := trivial
theorem L155 : True := trivial
theorem L156 : True := trivial
theorem L157 : True := trivial
theorem L158 : True := trivial
theorem L159 : True := trivial
theorem L160 : True := trivial
theorem L161 : True := trivial
theorem L162 : True := trivial
theorem L163 : True := trivial
theorem L164 : True := trivial
theorem L165 : True := trivial
theorem L166 : True := trivial
theorem L167 : True := trivial
theorem L168 : True := trivial
theorem L169 : True := trivial
theorem L170 : True := trivial
theorem L171 : True := trivial
theorem L172 : True := trivial
theorem L173 : True := trivial
theorem L174 : True := trivial
theorem L175 : True := trivial
theorem L176 : True := trivial
theorem L177 : True := trivial
theorem L178 : True := trivial
theorem L179 : True := trivial
theorem L180 : True := trivial
theorem L181 : True := trivial
theorem L182 : True := trivial
theorem L183 : True := trivial
theorem L184 : True := trivial
theorem L185 : True := trivial
theorem L186 : True := trivial
theorem L187 : True := trivial
theorem L188 : True := trivial
theorem L189 : True := trivial
theorem L190 : True := trivial
theorem L191 : True := trivial
theorem L192 : True := trivial
theorem L193 : True := trivial
theorem L194 : True := trivial
theorem L195 : True := trivial
theorem L196 : True := trivial
theorem L197 : True := trivial
theorem L198 : True := trivial
theorem L199 : True := trivial
-- STAND-INS
/-! what a text means: tx its characters, L its length -/
def tp_c (tx : Nat → Nat) (L p a : Nat) : Bool := decide (p < L ∧ tx p = a)
def tp_dg (tx : Nat → Nat) (L p : Nat) : Bool := decide (p < L ∧ 48 ≤ tx p ∧ tx p ≤ 57)
/-- how many figures stand from q on, at most k -/
def tp_dc (tx : Nat → Nat) (L q : Nat) : Nat → Nat
  | 0 => 0
  | k + 1 => if tp_dc tx L q k = k ∧ tp_dg tx L (q + k) = true then k + 1 else tp_dc tx L q k
def tp_rd (tx : Nat → Nat) (q : Nat) : Nat → Nat
  | 0 => 0
  | k + 1 => 10 * tp_rd tx q k + (tx (q + k) - 48)
/-- a value at p of at most m figures: does it stand there, where does the reading stand behind it, what is it -/
def tp_vo (tx : Nat → Nat) (L p : Nat) : Bool := tp_c tx L p 32 && tp_dg tx L (p + 1)
def tp_vp (tx : Nat → Nat) (L p m : Nat) : Nat := if tp_c tx L p 32 = true then (if tp_dg tx L (p + 1) = true then p + 1 + tp_dc tx L (p + 1) m else p + 1) else p
def tp_vv (tx : Nat → Nat) (L p m : Nat) : Nat := tp_rd tx (p + 1) (tp_dc tx L (p + 1) m)
/-- how far word v goes from p on -/
def tp_mg (tx : Nat → Nat) (L p v : Nat) : Nat → Nat
  | 0 => 0
  | k + 1 => if tp_mg tx L p v k = k ∧ tp_c tx L (p + k) (x_wN v k) = true then k + 1 else tp_mg tx L p v k
def tp_ml (tx : Nat → Nat) (L p v : Nat) : Nat := tp_mg tx L p v (x_wL v)
def tp_mx (tx : Nat → Nat) (L p : Nat) : Nat → Nat
  | 0 => 0
  | i + 1 => max (tp_mx tx L p i) (tp_ml tx L p i)
def tp_fv (tx : Nat → Nat) (L p : Nat) : Nat → Nat
  | 0 => 13
  | i + 1 => if tp_fv tx L p i < 13 then tp_fv tx L p i else if tp_ml tx L p i = x_wL i then i else 13
def tp_vb (tx : Nat → Nat) (L p : Nat) : Nat := tp_fv tx L p 13
def tp_vd (v : Nat) : Nat := (x_vd v).toNatClampNeg
def tp_vn (v : Nat) : Nat := if x_vh v = 0 then tp_vd v else tp_vd v + 1
def tp_m (v a : Nat) : Nat := if a < tp_vd v then 1 else 3
/-- where the reading stands behind a values of the verb v, from q on -/
def tp_ap (tx : Nat → Nat) (L v q : Nat) : Nat → Nat
  | 0 => q
  | a + 1 => tp_vp tx L (tp_ap tx L v q a) (tp_m v a)
/-- how many of the first k values stand there -/
def tp_af (tx : Nat → Nat) (L v q : Nat) : Nat → Nat
  | 0 => 0
  | a + 1 => if tp_af tx L v q a = a ∧ tp_vo tx L (tp_ap tx L v q a) = true then a + 1 else tp_af tx L v q a
def tp_co (tx : Nat → Nat) (L p : Nat) : Prop := tp_vb tx L p < 13 ∧ tp_af tx L (tp_vb tx L p) (p + x_wL (tp_vb tx L p)) (tp_vn (tp_vb tx L p)) = tp_vn (tp_vb tx L p)
def tp_ce (tx : Nat → Nat) (L p : Nat) : Nat := if tp_vb tx L p < 13 then (if tp_af tx L (tp_vb tx L p) (p + x_wL (tp_vb tx L p)) (tp_vn (tp_vb tx L p)) = tp_vn (tp_vb tx L p) then tp_ap tx L (tp_vb tx L p) (p + x_wL (tp_vb tx L p)) (tp_vn (tp_vb tx L p)) else tp_ap tx L (tp_vb tx L p) (p + x_wL (tp_vb tx L p)) (tp_af tx L (tp_vb tx L p) (p + x_wL (tp_vb tx L p)) (tp_vn (tp_vb tx L p)) + 1)) else p + tp_mx tx L p 13
def tp_v1 (tx : Nat → Nat) (L p : Nat) : Nat := if 1 ≤ tp_vn (tp_vb tx L p) then tp_vv tx L (p + x_wL (tp_vb tx L p)) (tp_m (tp_vb tx L p) 0) else 0
def tp_v2 (tx : Nat → Nat) (L p : Nat) : Nat := if 2 ≤ tp_vn (tp_vb tx L p) then tp_vv tx L (tp_ap tx L (tp_vb tx L p) (p + x_wL (tp_vb tx L p)) 1) (tp_m (tp_vb tx L p) 1) else 0
/-- where command c begins -/
def tp_P (tx : Nat → Nat) (L : Nat) : Nat → Nat
  | 0 => 0
  | c + 1 => tp_ce tx L (tp_P tx L c) + 1
theorem tp_dc_le (tx : Nat → Nat) (L q : Nat) : ∀ k, tp_dc tx L q k ≤ k
  | 0 => Nat.le_refl 0
  | k + 1 => by
    have h := tp_dc_le tx L q k
    rw [tp_dc]
    split <;> omega
theorem tp_dc_in (tx : Nat → Nat) (L q : Nat) : ∀ k, tp_dc tx L q k = 0 ∨ q + tp_dc tx L q k ≤ L
  | 0 => Or.inl rfl
  | k + 1 => by
    have h := tp_dc_in tx L q k
    rw [tp_dc]
    split
    · rename_i z
      have := of_decide_eq_true z.2
      exact Or.inr (by omega)
    · exact h
theorem tp_rd_lt (tx : Nat → Nat) (q : Nat) (L : Nat) : ∀ k, (∀ j, j < k → tp_dg tx L (q + j) = true) → tp_rd tx q k < 10 ^ k
  | 0, _ => by simp [tp_rd]
  | k + 1, h => by
    have h1 := tp_rd_lt tx q L k (fun j hj => h j (by omega))
    have h2 := of_decide_eq_true (h k (by omega))
    rw [tp_rd, Nat.pow_succ]
    omega
theorem tp_dc_all (tx : Nat → Nat) (L q : Nat) : ∀ k j, j < tp_dc tx L q k → tp_dg tx L (q + j) = true
  | 0, j, h => absurd h (Nat.not_lt_zero j)
  | k + 1, j, h => by
    rw [tp_dc] at h
    split at h
    · rename_i z
      rcases Nat.lt_or_ge j k with q1 | q1
      · exact tp_dc_all tx L q k j (by omega)
      · have e : j = k := by omega
        subst e
        exact z.2
    · exact tp_dc_all tx L q k j h
theorem tp_dc_stop (tx : Nat → Nat) (L q k : Nat) (h : ¬ (tp_dc tx L q k = k ∧ tp_dg tx L (q + k) = true)) (hk : tp_dc tx L q k = k) : ∀ w, k ≤ w → tp_dc tx L q w = k := by
  intro w hw
  induction w with
  | zero => have e : k = 0 := by omega
            subst e; rfl
  | succ w ih =>
    rcases Nat.lt_or_ge k (w + 1) with z | z
    · have h1 := ih (by omega)
      rw [tp_dc]
      by_cases e : w = k
      · subst e
        rw [if_neg h, hk]
      · rw [if_neg (fun y => by omega), h1]
    · have e : k = w + 1 := by omega
      subst e; exact hk
theorem tp_mg_le (tx : Nat → Nat) (L p v : Nat) : ∀ k, tp_mg tx L p v k ≤ k
  | 0 => Nat.le_refl 0
  | k + 1 => by
    have h := tp_mg_le tx L p v k
    rw [tp_mg]
    split <;> omega
theorem tp_mg_in (tx : Nat → Nat) (L p v : Nat) : ∀ k, tp_mg tx L p v k = 0 ∨ p + tp_mg tx L p v k ≤ L
  | 0 => Or.inl rfl
  | k + 1 => by
    have h := tp_mg_in tx L p v k
    rw [tp_mg]
    split
    · rename_i z
      have := of_decide_eq_true z.2
      exact Or.inr (by omega)
    · exact h
theorem tp_mg_stop (tx : Nat → Nat) (L p v k : Nat) (h : ¬ tp_c tx L (p + k) (x_wN v k) = true) (hk : tp_mg tx L p v k = k) : ∀ w, k ≤ w → tp_mg tx L p v w = k := by
  intro w hw
  induction w with
  | zero => have e : k = 0 := by omega
            subst e; rfl
  | succ w ih =>
    rcases Nat.lt_or_ge k (w + 1) with z | z
    · have h1 := ih (by omega)
      rw [tp_mg]
      by_cases e : w = k
      · subst e
        rw [if_neg (fun y => h y.2), hk]
      · rw [if_neg (fun y => by omega), h1]
    · have e : k = w + 1 := by omega
      subst e; exact hk
theorem tp_mx_le (tx : Nat → Nat) (L p : Nat) : ∀ i, i ≤ 13 → tp_mx tx L p i ≤ 6
  | 0, _ => by simp [tp_mx]
  | i + 1, h => by
    have h1 := tp_mx_le tx L p i (by omega)
    have h2 := tp_mg_le tx L p i (x_wL i)
    have h3 := x_wL_lt i (by omega)
    rw [tp_mx]
    unfold tp_ml
    omega
theorem tp_fv_no (tx : Nat → Nat) (L p : Nat) : ∀ i, (∀ j, j < i → ¬ tp_ml tx L p j = x_wL j) → tp_fv tx L p i = 13
  | 0, _ => rfl
  | i + 1, h => by
    have h1 := tp_fv_no tx L p i (fun j hj => h j (by omega))
    rw [tp_fv, h1, if_neg (by omega), if_neg (h i (by omega))]
theorem tp_fv_yes (tx : Nat → Nat) (L p k : Nat) (hk : k < 13) (h0 : ∀ j, j < k → ¬ tp_ml tx L p j = x_wL j) (h1 : tp_ml tx L p k = x_wL k) : ∀ i, k < i → tp_fv tx L p i = k := by
  intro i hi
  induction i with
  | zero => exact absurd hi (Nat.not_lt_zero k)
  | succ i ih =>
    rw [tp_fv]
    rcases Nat.lt_or_ge k i with z | z
    · rw [ih z, if_pos hk]
    · have e : i = k := by omega
      subst e
      rw [tp_fv_no tx L p i h0, if_neg (by omega), if_pos h1]
theorem tp_fv_cases (tx : Nat → Nat) (L p : Nat) : ∀ i, i ≤ 13 → (tp_fv tx L p i = 13 ∧ ∀ j, j < i → ¬ tp_ml tx L p j = x_wL j) ∨ (tp_fv tx L p i < i ∧ tp_ml tx L p (tp_fv tx L p i) = x_wL (tp_fv tx L p i) ∧ ∀ j, j < tp_fv tx L p i → ¬ tp_ml tx L p j = x_wL j)
  | 0, _ => Or.inl ⟨rfl, fun j h => absurd h (Nat.not_lt_zero j)⟩
  | i + 1, h => by
    rcases tp_fv_cases tx L p i (by omega) with ⟨h1, h2⟩ | ⟨h1, h2, h3⟩
    · by_cases q : tp_ml tx L p i = x_wL i
      · have e := tp_fv_yes tx L p i (by omega) h2 q (i + 1) (by omega)
        rw [e]
        exact Or.inr ⟨by omega, q, h2⟩
      · refine Or.inl ⟨by rw [tp_fv, h1, if_neg (by omega), if_neg q], fun j hj => ?_⟩
        rcases Nat.lt_or_ge j i with z | z
        · exact h2 j z
        · have e : j = i := by omega
          subst e; exact q
    · have e : tp_fv tx L p (i + 1) = tp_fv tx L p i := by rw [tp_fv, if_pos (by omega)]
      rw [e]
      exact Or.inr ⟨by omega, h2, h3⟩
theorem tp_vd_ok : ∀ v, v < 13 → (x_vd v = nI (tp_vd v) ∧ tp_vd v ≤ 2 ∧ tp_vn v ≤ 2 ∧ (x_vh v = 0 ∨ x_vh v = 1) ∧ (tp_vn v = tp_vd v ∨ tp_vn v = tp_vd v + 1)) := by decide +kernel
theorem tp_c_lt {tx : Nat → Nat} {L p a : Nat} (h : tp_c tx L p a = true) : p < L := (of_decide_eq_true h).1
theorem tp_vp_le {tx : Nat → Nat} {L p w : Nat} (h : p ≤ L) : tp_vp tx L p w ≤ L := by
  unfold tp_vp
  split
  · rename_i h1
    have := tp_c_lt h1
    split
    · rename_i h2
      have h3 := (of_decide_eq_true h2).1
      rcases tp_dc_in tx L (p + 1) w with e | e
      · rw [e]; omega
      · omega
    · omega
  · exact h
theorem tp_ap_le {tx : Nat → Nat} {L v q : Nat} (h : q ≤ L) : ∀ a, tp_ap tx L v q a ≤ L
  | 0 => h
  | a + 1 => tp_vp_le (tp_ap_le h a)
theorem tp_af_le (tx : Nat → Nat) (L v q : Nat) : ∀ a, tp_af tx L v q a ≤ a
  | 0 => Nat.le_refl 0
  | a + 1 => by
    have h := tp_af_le tx L v q a
    rw [tp_af]
    split <;> omega
theorem tp_af_stop (tx : Nat → Nat) (L v q k : Nat) (h : ¬ tp_vo tx L (tp_ap tx L v q k) = true) (hk : tp_af tx L v q k = k) : ∀ w, k ≤ w → tp_af tx L v q w = k := by
  intro w hw
  induction w with
  | zero => have e : k = 0 := by omega
            subst e; rfl
  | succ w ih =>
    rcases Nat.lt_or_ge k (w + 1) with z | z
    · have h1 := ih (by omega)
      rw [tp_af]
      by_cases e : w = k
      · subst e
        rw [if_neg (fun y => h y.2), hk]
      · rw [if_neg (fun y => by omega), h1]
    · have e : k = w + 1 := by omega
      subst e; exact hk
theorem tp_af_pre (tx : Nat → Nat) (L v q : Nat) : ∀ k a, a ≤ tp_af tx L v q k → tp_af tx L v q a = a
  | 0, a, h => by
    have e : a = 0 := by
      have := tp_af_le tx L v q 0
      omega
    subst e; rfl
  | k + 1, a, h => by
    by_cases z : tp_af tx L v q k = k ∧ tp_vo tx L (tp_ap tx L v q k) = true
    · have e : tp_af tx L v q (k + 1) = k + 1 := by rw [tp_af, if_pos z]
      rcases Nat.lt_or_ge a (k + 1) with y | y
      · exact tp_af_pre tx L v q k a (by omega)
      · have e2 : a = k + 1 := by omega
        subst e2; exact e
    · have e : tp_af tx L v q (k + 1) = tp_af tx L v q k := by rw [tp_af, if_neg z]
      exact tp_af_pre tx L v q k a (by omega)
