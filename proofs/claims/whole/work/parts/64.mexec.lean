-- STAND-INS
theorem n : True := trivial
theorem i : True := trivial
theorem k : True := trivial
theorem q : True := trivial
theorem u : True := trivial
theorem v : True := trivial
theorem w : True := trivial
theorem j : True := trivial
theorem o : True := trivial
theorem a : True := trivial
theorem b : True := trivial
theorem y : True := trivial
theorem z : True := trivial
theorem r : True := trivial
theorem t : True := trivial
theorem f : True := trivial
theorem g : True := trivial
theorem o2 : True := trivial
theorem a2 : True := trivial
theorem hlt : True := trivial
theorem hltk : True := trivial
theorem hlt3 : True := trivial
theorem hlt4 : True := trivial
theorem hn : True := trivial
theorem hq : True := trivial
theorem hm : True := trivial
theorem hi : True := trivial
theorem hi2 : True := trivial
theorem hi3 : True := trivial
theorem hk : True := trivial
theorem hj : True := trivial
theorem hb : True := trivial
theorem hs : True := trivial
theorem hw : True := trivial
theorem hx : True := trivial
theorem hz : True := trivial
theorem hv : True := trivial
theorem hr : True := trivial
theorem hc : True := trivial
theorem hu : True := trivial
theorem hp : True := trivial
theorem hl : True := trivial
theorem hh : True := trivial
theorem e : True := trivial
theorem e9 : True := trivial
theorem sh : True := trivial
theorem a0 : True := trivial
theorem c9 : True := trivial
theorem k9 : True := trivial
theorem m9 : True := trivial
theorem mm : True := trivial
theorem ha : True := trivial
theorem ho : True := trivial
theorem hS : True := trivial
theorem ha0 : True := trivial
theorem hs9 : True := trivial
theorem hk0 : True := trivial
theorem hk1 : True := trivial
theorem hk9 : True := trivial
theorem hap : True := trivial
theorem hoo : True := trivial
theorem qh : True := trivial
theorem ex : True := trivial
theorem ih : True := trivial
theorem ihk : True := trivial
theorem ih1 : True := trivial
theorem ih2 : True := trivial
theorem ih3 : True := trivial
theorem ih4 : True := trivial
theorem ihj : True := trivial
theorem st : True := trivial
theorem lst : True := trivial
theorem args0 : True := trivial
theorem hcn : True := trivial
theorem hcir : True := trivial
theorem q8 : True := trivial
theorem z8 : True := trivial
theorem h0 : True := trivial
theorem h1 : True := trivial
theorem h2 : True := trivial
theorem h3 : True := trivial
theorem h4 : True := trivial
theorem h5 : True := trivial
theorem h7 : True := trivial
theorem h10 : True := trivial
theorem h11 : True := trivial
theorem h12 : True := trivial
theorem h13 : True := trivial
theorem h14 : True := trivial
theorem h15 : True := trivial
theorem h16 : True := trivial
theorem h17 : True := trivial
theorem h18 : True := trivial
theorem h19 : True := trivial
theorem h20 : True := trivial
theorem h21 : True := trivial
theorem h22 : True := trivial
theorem h23 : True := trivial
theorem h24 : True := trivial
theorem h25 : True := trivial
theorem h26 : True := trivial
theorem h27 : True := trivial
theorem h28 : True := trivial
theorem h29 : True := trivial
theorem h30 : True := trivial
theorem h31 : True := trivial
theorem h32 : True := trivial
theorem h33 : True := trivial
theorem h34 : True := trivial
theorem h35 : True := trivial
theorem h36 : True := trivial
theorem h37 : True := trivial
theorem h38 : True := trivial
theorem h39 : True := trivial
theorem h40 : True := trivial
theorem h41 : True := trivial
theorem h42 : True := trivial
theorem h43 : True := trivial
theorem h44 : True := trivial
theorem h45 : True := trivial
theorem h46 : True := trivial
theorem h47 : True := trivial
theorem h48 : True := trivial
theorem h49 : True := trivial
theorem h50 : True := trivial
theorem h51 : True := trivial
theorem h52 : True := trivial
theorem h53 : True := trivial
theorem h54 : True := trivial
theorem h55 : True := trivial
theorem h56 : True := trivial
theorem h57 : True := trivial
theorem h58 : True := trivial
theorem h59 : True := trivial
theorem h60 : True := trivial
theorem h61 : True := trivial
theorem h62 : True := trivial
theorem h63 : True := trivial
theorem h64 : True := trivial
theorem h65 : True := trivial
theorem h66 : True := trivial
theorem h67 : True := trivial
theorem h68 : True := trivial
theorem h69 : True := trivial
theorem h70 : True := trivial
theorem h71 : True := trivial
theorem h72 : True := trivial
theorem h73 : True := trivial
theorem h74 : True := trivial
theorem h75 : True := trivial
theorem h76 : True := trivial
theorem h77 : True := trivial
theorem h78 : True := trivial
theorem h79 : True := trivial
theorem h80 : True := trivial
theorem h81 : True := trivial
theorem h82 : True := trivial
theorem h83 : True := trivial
theorem h84 : True := trivial
theorem h85 : True := trivial
theorem h86 : True := trivial
theorem h87 : True := trivial
theorem h88 : True := trivial
theorem h89 : True := trivial
theorem h90 : True := trivial
theorem h91 : True := trivial
theorem h92 : True := trivial
theorem h93 : True := trivial
theorem h94 : True := trivial
theorem h95 : True := trivial
theorem h96 : True := trivial
theorem h97 : True := trivial
theorem h98 : True := trivial
theorem h99 : True := trivial
theorem h100 : True := trivial
theorem h101 : True := trivial
theorem h102 : True := trivial
theorem h103 : True := trivial
theorem h104 : True := trivial
theorem h105 : True := trivial
theorem h106 : True := trivial
theorem h107 : True := trivial
theorem h108 : True := trivial
theorem h109 : True := trivial
theorem h110 : True := trivial
theorem h111 : True := trivial
theorem h112 : True := trivial
theorem h113 : True := trivial
theorem h114 : True := trivial
theorem h115 : True := trivial
theorem h116 : True := trivial
theorem h117 : True := trivial
theorem h118 : True := trivial
theorem h119 : True := trivial
theorem h120 : True := trivial
theorem h121 : True := trivial
theorem h122 : True := trivial
theorem h123 : True := trivial
theorem h124 : True := trivial
theorem h125 : True := trivial
theorem h126 : True := trivial
theorem h127 : True := trivial
theorem h128 : True := trivial
theorem h129 : True := trivial
theorem h130 : True := trivial
theorem h131 : True := trivial
theorem h132 : True := trivial
theorem h133 : True := trivial
theorem h134 : True := trivial
theorem h135 : True := trivial
theorem h136 : True := trivial
theorem h137 : True := trivial
theorem h138 : True := trivial
theorem h139 : True := trivial
theorem h140 : True := trivial
theorem h141 : True := trivial
theorem h142 : True := trivial
theorem h143 : True := trivial
theorem h144 : True := trivial
theorem h145 : True := trivial
theorem h146 : True := trivial
theorem h147 : True := trivial
theorem h148 : True := trivial
theorem h149 : True := trivial
theorem h150 : True := trivial
theorem h151 : True := trivial
theorem h152 : True := trivial
theorem h153 : True := trivial
theorem h154 : True := trivial
theorem h155 : True := trivial
theorem h156 : True := trivial
theorem h157 : True := trivial
theorem h158 : True := trivial
theorem h159 : True := trivial
theorem h160 : True := trivial
theorem h161 : True := trivial
theorem h162 : True := trivial
theorem h163 : True := trivial
theorem h164 : True := trivial
theorem h165 : True := trivial
theorem h166 : True := trivial
theorem h167 : True := trivial
theorem h168 : True := trivial
theorem h169 : True := trivial
theorem h170 : True := trivial
theorem h171 : True := trivial
theorem h172 : True := trivial
theorem h173 : True := trivial
theorem h174 : True := trivial
theorem h175 : True := trivial
theorem h176 : True := trivial
theorem h177 : True := trivial
theorem h178 : True := trivial
theorem h179 : True := trivial
theorem h180 : True := trivial
theorem h181 : True := trivial
theorem h182 : True := trivial
theorem h183 : True := trivial
theorem h184 : True := trivial
theorem h185 : True := trivial
theorem h186 : True := trivial
theorem h187 : True := trivial
theorem h188 : True := trivial
theorem h189 : True := trivial
theorem h190 : True := trivial
theorem h191 : True := trivial
theorem h192 : True := trivial
theorem h193 : True := trivial
theorem h194 : True := trivial
theorem h195 : True := trivial
theorem h196 : True := trivial
theorem h197 : True := trivial
theorem h198 : True := trivial
theorem h199 : True := trivial
theorem L0 : True := trivial
theorem L1 : True := trivial
theorem L2 : True := trivial
theorem L3 : True := trivial
theorem L4 : True := trivial
theorem L5 : True := trivial
theorem L6 : True := trivial
theorem L7 : True := trivial
theorem L8 : True := trivial
theorem L9 : True := trivial
theorem L10 : True := trivial
theorem L11 : True := trivial
theorem L12 : True := trivial
theorem L13 : True := trivial
theorem L14 : True := trivial
theorem L15 : True := trivial
theorem L16 : True := trivial
theorem L17 : True := trivial
theorem L18 : True := trivial
theorem L19 : True := trivial
theorem L20 : True := trivial
theorem L21 : True := trivial
theorem L22 : True := trivial
theorem L23 : True := trivial
theorem L24 : True := trivial
theorem L25 : True := trivial
theorem L26 : True := trivial
theorem L27 : True := trivial
theorem L28 : True := trivial
theorem L29 : True := trivial
theorem L30 : True := trivial
theorem L31 : True := trivial
theorem L32 : True := trivial
theorem L33 : True := trivial
theorem L34 : True := trivial
theorem L35 : True := trivial
theorem L36 : True := trivial
theorem L37 : True := trivial
theorem L38 : True := trivial
theorem L39 : True := trivial
theorem L40 : True := trivial
theorem L41 : True := trivial
theorem L42 : True := trivial
theorem L43 : True := trivial
theorem L44 : True := trivial
theorem L45 : True := trivial
theorem L46 : True := trivial
theorem L47 : True := trivial
theorem L48 : True := trivial
theorem L49 : True := trivial
theorem L50 : True := trivial
theorem L51 : True := trivial
theorem L52 : True := trivial
theorem L53 : True := trivial
theorem L54 : True := trivial
theorem L55 : True := trivial
theorem L56 : True := trivial
theorem L57 : True := trivial
theorem L58 : True := trivial
theorem L59 : True := trivial
theorem L60 : True := trivial
theorem L61 : True := trivial
theorem L62 : True := trivial
theorem L63 : True := trivial
theorem L64 : True := trivial
theorem L65 : True := trivial
theorem L66 : True := trivial
theorem L67 : True := trivial
theorem L68 : True := trivial
theorem L69 : True := trivial
theorem L70 : True := trivial
theorem L71 : True := trivial
theorem L72 : True := trivial
theorem L73 : True := trivial
theorem L74 : True := trivial
theorem L75 : True := trivial
theorem L76 : True := trivial
theorem L77 : True := trivial
theorem L78 : True := trivial
theorem L79 : True := trivial
theorem L80 : True := trivial
theorem L81 : True := trivial
theorem L82 : True := trivial
theorem L83 : True := trivial
theorem L84 : True := trivial
theorem L85 : True := trivial
theorem L86 : True := trivial
theorem L87 : True := trivial
theorem L88 : True := trivial
theorem L89 : True := trivial
theorem L90 : True := trivial
theorem L91 : True := trivial
theorem L92 : True := trivial
theorem L93 : True := trivial
theorem L94 : True := trivial
theorem L95 : True := trivial
theorem L96 : True := trivial
theorem L97 : True := trivial
theorem L98 : True := trivial
theorem L99 : True := trivial
theorem L100 : True := trivial
theorem L101 : True := trivial
theorem L102 : True := trivial
theorem L103 : True := trivial
theorem L104 : True := trivial
theorem L105 : True := trivial
theorem L106 : True := trivial
theorem L107 : True := trivial
theorem L108 : True := trivial
theorem L109 : True := trivial
theorem L110 : True := trivial
theorem L111 : True := trivial
theorem L112 : True := trivial
theorem L113 : True := trivial
theorem L114 : True := trivial
theorem L115 : True := trivial
theorem L116 : True := trivial
theorem L117 : True := trivial
theorem L118 : True := trivial
theorem L119 : True := trivial
theorem L120 : True := trivial
theorem L121 : True := trivial
theorem L122 : True := trivial
theorem L123 : True := trivial
theorem L124 : True := trivial
theorem L125 : True := trivial
theorem L126 : True := trivial
theorem L127 : True := trivial
theorem L128 : True := trivial
theorem L129 : True := trivial
theorem L130 : True := trivial
theorem L131 : True := trivial
theorem L132 : True := trivial
theorem L133 : True := trivial
theorem L134 : True := trivial
theorem L135 : True := trivial
theorem L136 : True := trivial
theorem L137 : True := trivial
theorem L138 : True := trivial
theorem L139 : True := trivial
theorem L140 : True := trivial
theorem L141 : True := trivial
theorem L142 : True := trivial
theorem L143 : True := trivial
theorem L144 : True := trivial
theorem L145 : True := trivial
theorem L146 : True := trivial
theorem L147 : True := trivial
theorem L148 : True := trivial
theorem L149 : True := trivial
theorem L150 : True := trivial
theorem L151 : True := trivial
theorem L152 : True := trivial
theorem L153 : True := trivial
theorem L154 : True := trivial
theorem L155 : True := trivial
theorem L156 : True := trivial
theorem L157 : True := trivial
theorem L158 : True := trivial
theorem L159 : True := trivial
theorem L160 : True := trivial
theorem L161 : True := trivial
theorem L162 : True := trivial
theorem L163 : True := trivial
theorem L164 : True := trivial
theorem L165 : True := trivial
theorem L166 : True := trivial
theorem L167 : True := trivial
theorem L168 : True := trivial
theorem L169 : True := trivial
theorem L170 : True := trivial
theorem L171 : True := trivial
theorem L172 : True := trivial
theorem L173 : True := trivial
theorem L174 : True := trivial
theorem L175 : True := trivial
theorem L176 : True := trivial
theorem L177 : True := trivial
theorem L178 : True := trivial
theorem L179 : True := trivial
theorem L180 : True := trivial
theorem L181 : True := trivial
theorem L182 : True := trivial
theorem L183 : True := trivial
theorem L184 : True := trivial
theorem L185 : True := trivial
theorem L186 : True := trivial
theorem L187 : True := trivial
theorem L188 : True := trivial
theorem L189 : True := trivial
theorem L190 : True := trivial
theorem L191 : True := trivial
theorem L192 : True := trivial
theorem L193 : True := trivial
theorem L194 : True := trivial
theorem L195 : True := trivial
theorem L196 : True := trivial
theorem L197 : True := trivial
theorem L198 : True := trivial
theorem L199 : True := trivial
-- STAND-INS
set_option maxHeartbeats 1000000 in
set_option maxRecDepth 100000 in
theorem c_M_execute_b1 (l : Launch) (G : xG) (d : xd) (tx : Nat → Nat) (L : Nat) (hL : L ≤ 60) (ht7 : ∀ j, j < L → tx j < 128) (Ew Fw : Nat → xd) (cp : Nat → Nat) (k9 : Nat) (hk9 : k9 ≤ 15) (hE0 : Ew 0 = x_p (x_p d 175 13 0) 175 14 0) (hpc : ∀ i, i ≤ k9 → x_M G l yX12_parsesCommand wsX12_parsesCommand 5 0 0 [.ref (x_b G + 175), .int (nI (3 * i))] (Ew i) none (Fw i)) (hF : ∀ i, i ≤ k9 → Fw i 175 13 = nI (cp i) ∧ cp i ≤ L ∧ Fw i 175 7 = nI L ∧ (∀ j, j < L → Fw i 180 j = nI (tx j))) (hgo : ∀ i, i < k9 → Fw i 175 14 = 0 ∧ tp_c tx L (cp i) 59 = true ∧ Ew (i + 1) = x_p (Fw i) 175 13 (nI (cp i + 1))) (hw9 : Fw k9 175 14 = 1) : x_M G l yX12_execute wsX12_execute 7 0 0 [.ref (x_b G + 175)] d (some (.int 0)) (x_p (x_p (x_p (x_p (x_p (Fw k9) 175 13 (nI (cp k9))) 175 14 1) 175 7 0) 175 8 (nI (cp k9))) 175 12 1) := by
  have iX12 : ∀ w ∈ u_ws RX12 TX12 16, w ∈ wsX12_execute := by decide +kernel
  refine x_start (cc := cX12_execute) (maxL := 5) (ret := (some .int)) (own := RX12) (by decide) rfl rfl (Nat.le_of_ble_eq_true rfl) (lst := [(0, .ref (x_b G + 175))]) rfl ?_
  intro p e s m args below meth c C hr hlocks
  refine a_aload_n C dX12_execute_0 0 rfl ?_
  refine a_iconst C dX12_execute_1 (v := 0) (by decide) ?_
  refine a_putI C (k := 175) iX12 tyX12_ok nmX12 x_k175 rfl (j := 13) rfl (by decide) (by decide +kernel) rfl (ty := .int) (by decide +kernel) rfl rfl dX12_execute_2 ?_
  refine a_aload_n C dX12_execute_5 0 rfl ?_
  refine a_iconst C dX12_execute_6 (v := 0) (by decide) ?_
  refine a_putI C (k := 175) iX12 tyX12_ok nmX12 x_k175 rfl (j := 14) rfl (by decide) (by decide +kernel) rfl (ty := .boolean) (by decide +kernel) rfl rfl dX12_execute_7 ?_
  refine a_iconst C dX12_execute_10 (v := 0) (by decide) ?_
  refine a_istore_n C dX12_execute_11 (by decide) (lst2 := [(1, .int 0), (0, .ref (x_b G + 175))]) rfl ?_
  refine a_iconst C dX12_execute_12 (v := 1) (by decide) ?_
  refine a_istore_n C dX12_execute_13 (by decide) (lst2 := [(2, .int 1), (1, .int 0), (0, .ref (x_b G + 175))]) rfl ?_
  have L14 : ∀ (j i : Nat), i ≤ k9 → k9 < i + j → Ab G p l e (x_rm 7 0 0) s m args below meth c 5 0 0 (MQ below (x_Q G (some (.int 0)) (x_p (x_p (x_p (x_p (x_p (Fw k9) 175 13 (nI (cp k9))) 175 14 1) 175 7 0) 175 8 (nI (cp k9))) 175 12 1)) args s 0 0 (x_A G)) 14 [(2, .int 1), (1, .int (nI i)), (0, .ref (x_b G + 175))] [] (Ew i) := by
    intro j
    induction j with
    | zero => intro i h1 h2; exact absurd h2 (by omega)
    | succ j ih =>
      intro i hi hj 
      refine a_iload_n C dX12_execute_14 0 rfl ?_
      refine a_if_eq C dX12_execute_15 (tgt := 71) (by decide) (fun h => absurd h (by decide)) (fun _ => ?_)
      rcases Nat.lt_or_ge i k9 with hik | hik
      · skip
        obtain ⟨hf13, hfL, hf7, hf180⟩ := hF i (by omega)
        obtain ⟨hg14, h59, hE⟩ := hgo i hik
        have hpc9 := hpc i (by omega)
        refine a_aload_n C dX12_execute_18 2 rfl ?_
        refine a_iconst C dX12_execute_19 (v := 3) (by decide) ?_
        refine a_iload_n C dX12_execute_20 1 rfl ?_
        refine a_imul C dX12_execute_21 ?_
        refine a_top (y := (nI (3 * i))) (pk_mul 3 i) ?_
        refine a_callV C (k := 175) (As := [.int (nI (3 * i))]) (rest := []) (hpc9) (cwV 1 C.1.2.2.2.2 gX12_execute_X12_parsesCommand rfl rfl rfl (by decide +kernel) ⟨Nat.le_of_ble_eq_true rfl, Nat.le_of_ble_eq_true rfl⟩) x_k175 (q := (RX12, TX12, 16)) rfl rfl rfl rfl (Nat.le_of_ble_eq_true rfl) dX12_execute_22 ⟨Nat.le_of_ble_eq_true rfl, Nat.le_of_ble_eq_true rfl⟩ ?_
        refine a_iinc C dX12_execute_25 1 rfl (v := (nI (i + 1))) (x_inc i) (by decide) (lst2 := [(1, .int (nI (i + 1))), (2, .int 1), (0, .ref (x_b G + 175))]) rfl ?_
        refine a_aload_n C dX12_execute_28 2 rfl ?_
        refine a_getI C (k := 175) iX12 x_k175 rfl (j := 14) rfl (by decide) (by decide +kernel) dX12_execute_29 ?_
        refine a_top (y := 0) hg14 ?_
        refine a_if_ne C dX12_execute_32 (tgt := 48) (by decide) (fun h => absurd h (by decide)) (fun _ => ?_)
        refine a_aload_n C dX12_execute_35 2 rfl ?_
        refine a_callV C (k := 175) (As := []) (rest := []) (c_M_here l G (Fw i) tx L hL hf7 hf180 ht7 (cp i) hf13 (by omega)) (cwV 0 C.1.2.2.2.2 gX12_execute_X12_here rfl rfl rfl (by decide +kernel) ⟨Nat.le_of_ble_eq_true rfl, Nat.le_of_ble_eq_true rfl⟩) x_k175 (q := (RX12, TX12, 16)) rfl rfl rfl rfl (Nat.le_of_ble_eq_true rfl) dX12_execute_36 ⟨Nat.le_of_ble_eq_true rfl, Nat.le_of_ble_eq_true rfl⟩ ?_
        refine a_bipush C dX12_execute_39 (v := 59) (by decide) ?_
        refine a_icmp_ne C dX12_execute_41 (tgt := 48) (by decide) (fun h => False.elim (h ((tp_h_c (a := 59) ht7 (by omega)).mpr h59))) (fun h41 => ?_)
        refine a_iconst C dX12_execute_44 (v := 1) (by decide) ?_
        refine a_goto C dX12_execute_45 (tgt := 49) (by decide) ?_
        refine a_istore_n C dX12_execute_49 (by decide) (lst2 := [(2, .int 1), (1, .int (nI (i + 1))), (0, .ref (x_b G + 175))]) rfl ?_
        refine a_aload_n C dX12_execute_50 2 rfl ?_
        refine a_dup C dX12_execute_51 rfl ?_
        refine a_getI C (k := 175) iX12 x_k175 rfl (j := 13) rfl (by decide) (by decide +kernel) dX12_execute_52 ?_
        refine a_top (y := (nI (cp i))) hf13 ?_
        refine a_iload_n C dX12_execute_55 0 rfl ?_
        refine a_if_eq C dX12_execute_56 (tgt := 63) (by decide) (fun h => absurd h (by decide)) (fun _ => ?_)
        refine a_iconst C dX12_execute_59 (v := 1) (by decide) ?_
        refine a_goto C dX12_execute_60 (tgt := 64) (by decide) ?_
        refine a_iadd C dX12_execute_64 ?_
        refine a_top (y := (nI (cp i + 1))) (nI_1 _) ?_
        refine a_putI C (k := 175) iX12 tyX12_ok nmX12 x_k175 rfl (j := 13) rfl (by decide) (by decide +kernel) rfl (ty := .int) (by decide +kernel) rfl rfl dX12_execute_65 ?_
        refine a_toD (d2 := Ew (i + 1)) hE.symm ?_
        refine a_goto C dX12_execute_68 (tgt := 14) (by decide) ?_
        refine a_sub (lst2 := [(2, .int 1), (1, .int (nI (i + 1))), (0, .ref (x_b G + 175))]) [0, 1, 2] rfl ?_
        refine a_to (lst2 := [(2, .int 1), (1, .int (nI ((i + 1)))), (0, .ref (x_b G + 175))]) (st2 := []) (d2 := Ew ((i + 1))) rfl rfl rfl ?_
        exact ih (i + 1) (by omega) (by omega) 
      · skip
        have e9 : k9 = i := by omega
        subst e9
        obtain ⟨hf13, hfL, hf7, hf180⟩ := hF k9 (Nat.le_refl _)
        have hpc9 := hpc k9 (Nat.le_refl _)
        refine a_aload_n C dX12_execute_18 2 rfl ?_
        refine a_iconst C dX12_execute_19 (v := 3) (by decide) ?_
        refine a_iload_n C dX12_execute_20 1 rfl ?_
        refine a_imul C dX12_execute_21 ?_
        refine a_top (y := (nI (3 * k9))) (pk_mul 3 k9) ?_
        refine a_callV C (k := 175) (As := [.int (nI (3 * k9))]) (rest := []) (hpc9) (cwV 1 C.1.2.2.2.2 gX12_execute_X12_parsesCommand rfl rfl rfl (by decide +kernel) ⟨Nat.le_of_ble_eq_true rfl, Nat.le_of_ble_eq_true rfl⟩) x_k175 (q := (RX12, TX12, 16)) rfl rfl rfl rfl (Nat.le_of_ble_eq_true rfl) dX12_execute_22 ⟨Nat.le_of_ble_eq_true rfl, Nat.le_of_ble_eq_true rfl⟩ ?_
        refine a_iinc C dX12_execute_25 1 rfl (v := (nI (k9 + 1))) (x_inc k9) (by decide) (lst2 := [(1, .int (nI (k9 + 1))), (2, .int 1), (0, .ref (x_b G + 175))]) rfl ?_
        refine a_aload_n C dX12_execute_28 2 rfl ?_
        refine a_getI C (k := 175) iX12 x_k175 rfl (j := 14) rfl (by decide) (by decide +kernel) dX12_execute_29 ?_
        refine a_top (y := 1) hw9 ?_
        refine a_if_ne C dX12_execute_32 (tgt := 48) (by decide) (fun _ => ?_) (fun h => absurd h (by decide))
        refine a_iconst C dX12_execute_48 (v := 0) (by decide) ?_
        refine a_istore_n C dX12_execute_49 (by decide) (lst2 := [(2, .int 0), (1, .int (nI (k9 + 1))), (0, .ref (x_b G + 175))]) rfl ?_
        refine a_aload_n C dX12_execute_50 2 rfl ?_
        refine a_dup C dX12_execute_51 rfl ?_
        refine a_getI C (k := 175) iX12 x_k175 rfl (j := 13) rfl (by decide) (by decide +kernel) dX12_execute_52 ?_
        refine a_top (y := (nI (cp k9))) hf13 ?_
        refine a_iload_n C dX12_execute_55 0 rfl ?_
        refine a_if_eq C dX12_execute_56 (tgt := 63) (by decide) (fun _ => ?_) (fun h => absurd h (by decide))
        refine a_iconst C dX12_execute_63 (v := 0) (by decide) ?_
        refine a_iadd C dX12_execute_64 ?_
        refine a_top (y := (nI (cp k9))) (x_ad0 _) ?_
        refine a_putI C (k := 175) iX12 tyX12_ok nmX12 x_k175 rfl (j := 13) rfl (by decide) (by decide +kernel) rfl (ty := .int) (by decide +kernel) rfl rfl dX12_execute_65 ?_
        refine a_goto C dX12_execute_68 (tgt := 14) (by decide) ?_
        refine a_iload_n C dX12_execute_14 0 rfl ?_
        refine a_if_eq C dX12_execute_15 (tgt := 71) (by decide) (fun _ => ?_) (fun h => absurd rfl h)
        refine a_aload_n C dX12_execute_71 2 rfl ?_
        refine a_aload_n C dX12_execute_72 2 rfl ?_
        refine a_getI C (k := 175) iX12 x_k175 rfl (j := 14) rfl (by decide) (by decide +kernel) dX12_execute_73 ?_
        refine a_top (y := ((Fw k9) 175 14)) (by first | rw [x_p_row (by omega)] | rfl) ?_
        refine a_top (y := 1) hw9 ?_
        refine a_if_ne C dX12_execute_76 (tgt := 90) (by decide) (fun _ => ?_) (fun h => absurd h (by decide))
        refine a_iconst C dX12_execute_90 (v := 1) (by decide) ?_
        refine a_goto C dX12_execute_91 (tgt := 95) (by decide) ?_
        refine a_putI C (k := 175) iX12 tyX12_ok nmX12 x_k175 rfl (j := 14) rfl (by decide) (by decide +kernel) rfl (ty := .boolean) (by decide +kernel) rfl rfl dX12_execute_95 ?_
        refine a_aload_n C dX12_execute_98 2 rfl ?_
        refine a_iconst C dX12_execute_99 (v := 0) (by decide) ?_
        refine a_putI C (k := 175) iX12 tyX12_ok nmX12 x_k175 rfl (j := 7) rfl (by decide) (by decide +kernel) rfl (ty := .int) (by decide +kernel) rfl rfl dX12_execute_100 ?_
        refine a_aload_n C dX12_execute_103 2 rfl ?_
        refine a_getI C (k := 175) iX12 x_k175 rfl (j := 14) rfl (by decide) (by decide +kernel) dX12_execute_104 ?_
        refine a_top (y := 1) (by first | rw [x_p_row (by omega), x_p_at] | rfl) ?_
        refine a_top (y := 1) rfl ?_
        refine a_if_eq C dX12_execute_107 (tgt := 124) (by decide) (fun h => absurd h (by decide)) (fun _ => ?_)
        refine a_aload_n C dX12_execute_110 2 rfl ?_
        refine a_aload_n C dX12_execute_111 2 rfl ?_
        refine a_getI C (k := 175) iX12 x_k175 rfl (j := 13) rfl (by decide) (by decide +kernel) dX12_execute_112 ?_
        refine a_top (y := ((nI (cp k9)))) (by first | rw [x_p_row (by omega), x_p_row (by omega), x_p_at] | rfl) ?_
        refine a_top (y := (nI (cp k9))) rfl ?_
        refine a_putI C (k := 175) iX12 tyX12_ok nmX12 x_k175 rfl (j := 8) rfl (by decide) (by decide +kernel) rfl (ty := .int) (by decide +kernel) rfl rfl dX12_execute_115 ?_
        refine a_aload_n C dX12_execute_118 2 rfl ?_
        refine a_iconst C dX12_execute_119 (v := 1) (by decide) ?_
        refine a_callV C (k := 175) (As := [.int 1]) (rest := []) (c_M_fails l G (x_p (x_p (x_p (x_p (Fw k9) 175 13 (nI (cp k9))) 175 14 1) 175 7 0) 175 8 (nI (cp k9))) 1) (cwV 1 C.1.2.2.2.2 gX12_execute_X12_fails rfl rfl rfl (by decide +kernel) ⟨Nat.le_of_ble_eq_true rfl, Nat.le_of_ble_eq_true rfl⟩) x_k175 (q := (RX12, TX12, 16)) rfl rfl rfl rfl (Nat.le_of_ble_eq_true rfl) dX12_execute_120 ⟨Nat.le_of_ble_eq_true rfl, Nat.le_of_ble_eq_true rfl⟩ ?_
        exact a_iret C hlocks hr dX12_execute_123 rfl rfl
  refine a_sub (lst2 := [(2, .int 1), (1, .int 0), (0, .ref (x_b G + 175))]) [0, 1, 2] rfl ?_
  refine a_toD (d2 := Ew 0) hE0.symm ?_
  exact L14 (k9 + 1) 0 (by omega) (by omega)

set_option maxHeartbeats 1000000 in
set_option maxRecDepth 100000 in
theorem c_M_execute_b2 (l : Launch) (G : xG) (d : xd) (tx : Nat → Nat) (L : Nat) (hL : L ≤ 60) (ht7 : ∀ j, j < L → tx j < 128) (Ew Fw : Nat → xd) (cp : Nat → Nat) (k9 : Nat) (hk9 : k9 ≤ 15) (hE0 : Ew 0 = x_p (x_p d 175 13 0) 175 14 0) (hpc : ∀ i, i ≤ k9 → x_M G l yX12_parsesCommand wsX12_parsesCommand 5 0 0 [.ref (x_b G + 175), .int (nI (3 * i))] (Ew i) none (Fw i)) (hF : ∀ i, i ≤ k9 → Fw i 175 13 = nI (cp i) ∧ cp i ≤ L ∧ Fw i 175 7 = nI L ∧ (∀ j, j < L → Fw i 180 j = nI (tx j))) (hgo : ∀ i, i < k9 → Fw i 175 14 = 0 ∧ tp_c tx L (cp i) 59 = true ∧ Ew (i + 1) = x_p (Fw i) 175 13 (nI (cp i + 1))) (hw9 : Fw k9 175 14 = 0) (hno : ¬ tp_c tx L (cp k9) 59 = true) (hlt : cp k9 < L) : x_M G l yX12_execute wsX12_execute 7 0 0 [.ref (x_b G + 175)] d (some (.int 0)) (x_p (x_p (x_p (x_p (x_p (Fw k9) 175 13 (nI (cp k9))) 175 14 1) 175 7 0) 175 8 (nI (cp k9))) 175 12 1) := by
  have iX12 : ∀ w ∈ u_ws RX12 TX12 16, w ∈ wsX12_execute := by decide +kernel
  refine x_start (cc := cX12_execute) (maxL := 5) (ret := (some .int)) (own := RX12) (by decide) rfl rfl (Nat.le_of_ble_eq_true rfl) (lst := [(0, .ref (x_b G + 175))]) rfl ?_
  intro p e s m args below meth c C hr hlocks
  refine a_aload_n C dX12_execute_0 0 rfl ?_
  refine a_iconst C dX12_execute_1 (v := 0) (by decide) ?_
  refine a_putI C (k := 175) iX12 tyX12_ok nmX12 x_k175 rfl (j := 13) rfl (by decide) (by decide +kernel) rfl (ty := .int) (by decide +kernel) rfl rfl dX12_execute_2 ?_
  refine a_aload_n C dX12_execute_5 0 rfl ?_
  refine a_iconst C dX12_execute_6 (v := 0) (by decide) ?_
  refine a_putI C (k := 175) iX12 tyX12_ok nmX12 x_k175 rfl (j := 14) rfl (by decide) (by decide +kernel) rfl (ty := .boolean) (by decide +kernel) rfl rfl dX12_execute_7 ?_
  refine a_iconst C dX12_execute_10 (v := 0) (by decide) ?_
  refine a_istore_n C dX12_execute_11 (by decide) (lst2 := [(1, .int 0), (0, .ref (x_b G + 175))]) rfl ?_
  refine a_iconst C dX12_execute_12 (v := 1) (by decide) ?_
  refine a_istore_n C dX12_execute_13 (by decide) (lst2 := [(2, .int 1), (1, .int 0), (0, .ref (x_b G + 175))]) rfl ?_
  have L14 : ∀ (j i : Nat), i ≤ k9 → k9 < i + j → Ab G p l e (x_rm 7 0 0) s m args below meth c 5 0 0 (MQ below (x_Q G (some (.int 0)) (x_p (x_p (x_p (x_p (x_p (Fw k9) 175 13 (nI (cp k9))) 175 14 1) 175 7 0) 175 8 (nI (cp k9))) 175 12 1)) args s 0 0 (x_A G)) 14 [(2, .int 1), (1, .int (nI i)), (0, .ref (x_b G + 175))] [] (Ew i) := by
    intro j
    induction j with
    | zero => intro i h1 h2; exact absurd h2 (by omega)
    | succ j ih =>
      intro i hi hj 
      refine a_iload_n C dX12_execute_14 0 rfl ?_
      refine a_if_eq C dX12_execute_15 (tgt := 71) (by decide) (fun h => absurd h (by decide)) (fun _ => ?_)
      rcases Nat.lt_or_ge i k9 with hik | hik
      · skip
        obtain ⟨hf13, hfL, hf7, hf180⟩ := hF i (by omega)
        obtain ⟨hg14, h59, hE⟩ := hgo i hik
        have hpc9 := hpc i (by omega)
        refine a_aload_n C dX12_execute_18 2 rfl ?_
        refine a_iconst C dX12_execute_19 (v := 3) (by decide) ?_
        refine a_iload_n C dX12_execute_20 1 rfl ?_
        refine a_imul C dX12_execute_21 ?_
        refine a_top (y := (nI (3 * i))) (pk_mul 3 i) ?_
        refine a_callV C (k := 175) (As := [.int (nI (3 * i))]) (rest := []) (hpc9) (cwV 1 C.1.2.2.2.2 gX12_execute_X12_parsesCommand rfl rfl rfl (by decide +kernel) ⟨Nat.le_of_ble_eq_true rfl, Nat.le_of_ble_eq_true rfl⟩) x_k175 (q := (RX12, TX12, 16)) rfl rfl rfl rfl (Nat.le_of_ble_eq_true rfl) dX12_execute_22 ⟨Nat.le_of_ble_eq_true rfl, Nat.le_of_ble_eq_true rfl⟩ ?_
        refine a_iinc C dX12_execute_25 1 rfl (v := (nI (i + 1))) (x_inc i) (by decide) (lst2 := [(1, .int (nI (i + 1))), (2, .int 1), (0, .ref (x_b G + 175))]) rfl ?_
        refine a_aload_n C dX12_execute_28 2 rfl ?_
        refine a_getI C (k := 175) iX12 x_k175 rfl (j := 14) rfl (by decide) (by decide +kernel) dX12_execute_29 ?_
        refine a_top (y := 0) hg14 ?_
        refine a_if_ne C dX12_execute_32 (tgt := 48) (by decide) (fun h => absurd h (by decide)) (fun _ => ?_)
        refine a_aload_n C dX12_execute_35 2 rfl ?_
        refine a_callV C (k := 175) (As := []) (rest := []) (c_M_here l G (Fw i) tx L hL hf7 hf180 ht7 (cp i) hf13 (by omega)) (cwV 0 C.1.2.2.2.2 gX12_execute_X12_here rfl rfl rfl (by decide +kernel) ⟨Nat.le_of_ble_eq_true rfl, Nat.le_of_ble_eq_true rfl⟩) x_k175 (q := (RX12, TX12, 16)) rfl rfl rfl rfl (Nat.le_of_ble_eq_true rfl) dX12_execute_36 ⟨Nat.le_of_ble_eq_true rfl, Nat.le_of_ble_eq_true rfl⟩ ?_
        refine a_bipush C dX12_execute_39 (v := 59) (by decide) ?_
        refine a_icmp_ne C dX12_execute_41 (tgt := 48) (by decide) (fun h => False.elim (h ((tp_h_c (a := 59) ht7 (by omega)).mpr h59))) (fun h41 => ?_)
        refine a_iconst C dX12_execute_44 (v := 1) (by decide) ?_
        refine a_goto C dX12_execute_45 (tgt := 49) (by decide) ?_
        refine a_istore_n C dX12_execute_49 (by decide) (lst2 := [(2, .int 1), (1, .int (nI (i + 1))), (0, .ref (x_b G + 175))]) rfl ?_
        refine a_aload_n C dX12_execute_50 2 rfl ?_
        refine a_dup C dX12_execute_51 rfl ?_
        refine a_getI C (k := 175) iX12 x_k175 rfl (j := 13) rfl (by decide) (by decide +kernel) dX12_execute_52 ?_
        refine a_top (y := (nI (cp i))) hf13 ?_
        refine a_iload_n C dX12_execute_55 0 rfl ?_
        refine a_if_eq C dX12_execute_56 (tgt := 63) (by decide) (fun h => absurd h (by decide)) (fun _ => ?_)
        refine a_iconst C dX12_execute_59 (v := 1) (by decide) ?_
        refine a_goto C dX12_execute_60 (tgt := 64) (by decide) ?_
        refine a_iadd C dX12_execute_64 ?_
        refine a_top (y := (nI (cp i + 1))) (nI_1 _) ?_
        refine a_putI C (k := 175) iX12 tyX12_ok nmX12 x_k175 rfl (j := 13) rfl (by decide) (by decide +kernel) rfl (ty := .int) (by decide +kernel) rfl rfl dX12_execute_65 ?_
        refine a_toD (d2 := Ew (i + 1)) hE.symm ?_
        refine a_goto C dX12_execute_68 (tgt := 14) (by decide) ?_
        refine a_sub (lst2 := [(2, .int 1), (1, .int (nI (i + 1))), (0, .ref (x_b G + 175))]) [0, 1, 2] rfl ?_
        refine a_to (lst2 := [(2, .int 1), (1, .int (nI ((i + 1)))), (0, .ref (x_b G + 175))]) (st2 := []) (d2 := Ew ((i + 1))) rfl rfl rfl ?_
        exact ih (i + 1) (by omega) (by omega) 
      · skip
        have e9 : k9 = i := by omega
        subst e9
        obtain ⟨hf13, hfL, hf7, hf180⟩ := hF k9 (Nat.le_refl _)
        have hpc9 := hpc k9 (Nat.le_refl _)
        refine a_aload_n C dX12_execute_18 2 rfl ?_
        refine a_iconst C dX12_execute_19 (v := 3) (by decide) ?_
        refine a_iload_n C dX12_execute_20 1 rfl ?_
        refine a_imul C dX12_execute_21 ?_
        refine a_top (y := (nI (3 * k9))) (pk_mul 3 k9) ?_
        refine a_callV C (k := 175) (As := [.int (nI (3 * k9))]) (rest := []) (hpc9) (cwV 1 C.1.2.2.2.2 gX12_execute_X12_parsesCommand rfl rfl rfl (by decide +kernel) ⟨Nat.le_of_ble_eq_true rfl, Nat.le_of_ble_eq_true rfl⟩) x_k175 (q := (RX12, TX12, 16)) rfl rfl rfl rfl (Nat.le_of_ble_eq_true rfl) dX12_execute_22 ⟨Nat.le_of_ble_eq_true rfl, Nat.le_of_ble_eq_true rfl⟩ ?_
        refine a_iinc C dX12_execute_25 1 rfl (v := (nI (k9 + 1))) (x_inc k9) (by decide) (lst2 := [(1, .int (nI (k9 + 1))), (2, .int 1), (0, .ref (x_b G + 175))]) rfl ?_
        refine a_aload_n C dX12_execute_28 2 rfl ?_
        refine a_getI C (k := 175) iX12 x_k175 rfl (j := 14) rfl (by decide) (by decide +kernel) dX12_execute_29 ?_
        refine a_top (y := 0) hw9 ?_
        refine a_if_ne C dX12_execute_32 (tgt := 48) (by decide) (fun h => absurd h (by decide)) (fun _ => ?_)
        refine a_aload_n C dX12_execute_35 2 rfl ?_
        refine a_callV C (k := 175) (As := []) (rest := []) (c_M_here l G (Fw k9) tx L hL hf7 hf180 ht7 (cp k9) hf13 (by omega)) (cwV 0 C.1.2.2.2.2 gX12_execute_X12_here rfl rfl rfl (by decide +kernel) ⟨Nat.le_of_ble_eq_true rfl, Nat.le_of_ble_eq_true rfl⟩) x_k175 (q := (RX12, TX12, 16)) rfl rfl rfl rfl (Nat.le_of_ble_eq_true rfl) dX12_execute_36 ⟨Nat.le_of_ble_eq_true rfl, Nat.le_of_ble_eq_true rfl⟩ ?_
        refine a_bipush C dX12_execute_39 (v := 59) (by decide) ?_
        refine a_icmp_ne C dX12_execute_41 (tgt := 48) (by decide) (fun h41 => ?_) (fun h => False.elim (hno ((tp_h_c (a := 59) ht7 (by omega)).mp h)))
        refine a_iconst C dX12_execute_48 (v := 0) (by decide) ?_
        refine a_istore_n C dX12_execute_49 (by decide) (lst2 := [(2, .int 0), (1, .int (nI (k9 + 1))), (0, .ref (x_b G + 175))]) rfl ?_
        refine a_aload_n C dX12_execute_50 2 rfl ?_
        refine a_dup C dX12_execute_51 rfl ?_
        refine a_getI C (k := 175) iX12 x_k175 rfl (j := 13) rfl (by decide) (by decide +kernel) dX12_execute_52 ?_
        refine a_top (y := (nI (cp k9))) hf13 ?_
        refine a_iload_n C dX12_execute_55 0 rfl ?_
        refine a_if_eq C dX12_execute_56 (tgt := 63) (by decide) (fun _ => ?_) (fun h => absurd h (by decide))
        refine a_iconst C dX12_execute_63 (v := 0) (by decide) ?_
        refine a_iadd C dX12_execute_64 ?_
        refine a_top (y := (nI (cp k9))) (x_ad0 _) ?_
        refine a_putI C (k := 175) iX12 tyX12_ok nmX12 x_k175 rfl (j := 13) rfl (by decide) (by decide +kernel) rfl (ty := .int) (by decide +kernel) rfl rfl dX12_execute_65 ?_
        refine a_goto C dX12_execute_68 (tgt := 14) (by decide) ?_
        refine a_iload_n C dX12_execute_14 0 rfl ?_
        refine a_if_eq C dX12_execute_15 (tgt := 71) (by decide) (fun _ => ?_) (fun h => absurd rfl h)
        refine a_aload_n C dX12_execute_71 2 rfl ?_
        refine a_aload_n C dX12_execute_72 2 rfl ?_
        refine a_getI C (k := 175) iX12 x_k175 rfl (j := 14) rfl (by decide) (by decide +kernel) dX12_execute_73 ?_
        refine a_top (y := ((Fw k9) 175 14)) (by first | rw [x_p_row (by omega)] | rfl) ?_
        refine a_top (y := 0) hw9 ?_
        refine a_if_ne C dX12_execute_76 (tgt := 90) (by decide) (fun h => absurd h (by decide)) (fun _ => ?_)
        refine a_aload_n C dX12_execute_79 2 rfl ?_
        refine a_getI C (k := 175) iX12 x_k175 rfl (j := 13) rfl (by decide) (by decide +kernel) dX12_execute_80 ?_
        refine a_top (y := ((nI (cp k9)))) (by first | rw [x_p_at] | rfl) ?_
        refine a_top (y := (nI (cp k9))) rfl ?_
        refine a_aload_n C dX12_execute_83 2 rfl ?_
        refine a_getI C (k := 175) iX12 x_k175 rfl (j := 7) rfl (by decide) (by decide +kernel) dX12_execute_84 ?_
        refine a_top (y := ((Fw k9) 175 7)) (by first | rw [x_p_row (by omega)] | rfl) ?_
        refine a_top (y := (nI L)) hf7 ?_
        refine a_icmp_ge C dX12_execute_87 (tgt := 94) (by decide) (fun h => absurd h (nI_ge hlt (by omega))) (fun h87 => ?_)
        refine a_iconst C dX12_execute_90 (v := 1) (by decide) ?_
        refine a_goto C dX12_execute_91 (tgt := 95) (by decide) ?_
        refine a_putI C (k := 175) iX12 tyX12_ok nmX12 x_k175 rfl (j := 14) rfl (by decide) (by decide +kernel) rfl (ty := .boolean) (by decide +kernel) rfl rfl dX12_execute_95 ?_
        refine a_aload_n C dX12_execute_98 2 rfl ?_
        refine a_iconst C dX12_execute_99 (v := 0) (by decide) ?_
        refine a_putI C (k := 175) iX12 tyX12_ok nmX12 x_k175 rfl (j := 7) rfl (by decide) (by decide +kernel) rfl (ty := .int) (by decide +kernel) rfl rfl dX12_execute_100 ?_
        refine a_aload_n C dX12_execute_103 2 rfl ?_
        refine a_getI C (k := 175) iX12 x_k175 rfl (j := 14) rfl (by decide) (by decide +kernel) dX12_execute_104 ?_
        refine a_top (y := 1) (by first | rw [x_p_row (by omega), x_p_at] | rfl) ?_
        refine a_top (y := 1) rfl ?_
        refine a_if_eq C dX12_execute_107 (tgt := 124) (by decide) (fun h => absurd h (by decide)) (fun _ => ?_)
        refine a_aload_n C dX12_execute_110 2 rfl ?_
        refine a_aload_n C dX12_execute_111 2 rfl ?_
        refine a_getI C (k := 175) iX12 x_k175 rfl (j := 13) rfl (by decide) (by decide +kernel) dX12_execute_112 ?_
        refine a_top (y := ((nI (cp k9)))) (by first | rw [x_p_row (by omega), x_p_row (by omega), x_p_at] | rfl) ?_
        refine a_top (y := (nI (cp k9))) rfl ?_
        refine a_putI C (k := 175) iX12 tyX12_ok nmX12 x_k175 rfl (j := 8) rfl (by decide) (by decide +kernel) rfl (ty := .int) (by decide +kernel) rfl rfl dX12_execute_115 ?_
        refine a_aload_n C dX12_execute_118 2 rfl ?_
        refine a_iconst C dX12_execute_119 (v := 1) (by decide) ?_
        refine a_callV C (k := 175) (As := [.int 1]) (rest := []) (c_M_fails l G (x_p (x_p (x_p (x_p (Fw k9) 175 13 (nI (cp k9))) 175 14 1) 175 7 0) 175 8 (nI (cp k9))) 1) (cwV 1 C.1.2.2.2.2 gX12_execute_X12_fails rfl rfl rfl (by decide +kernel) ⟨Nat.le_of_ble_eq_true rfl, Nat.le_of_ble_eq_true rfl⟩) x_k175 (q := (RX12, TX12, 16)) rfl rfl rfl rfl (Nat.le_of_ble_eq_true rfl) dX12_execute_120 ⟨Nat.le_of_ble_eq_true rfl, Nat.le_of_ble_eq_true rfl⟩ ?_
        exact a_iret C hlocks hr dX12_execute_123 rfl rfl
  refine a_sub (lst2 := [(2, .int 1), (1, .int 0), (0, .ref (x_b G + 175))]) [0, 1, 2] rfl ?_
  refine a_toD (d2 := Ew 0) hE0.symm ?_
  exact L14 (k9 + 1) 0 (by omega) (by omega)

set_option maxHeartbeats 1000000 in
set_option maxRecDepth 100000 in
theorem c_M_execute (l : Launch) (G : xG) (d : xd) (tx : Nat → Nat) (L : Nat) (hL : L ≤ 60) (ht7 : ∀ j, j < L → tx j < 128) (Ew Fw : Nat → xd) (cp : Nat → Nat) (k9 : Nat) (hk9 : k9 ≤ 15) (hE0 : Ew 0 = x_p (x_p d 175 13 0) 175 14 0) (hpc : ∀ i, i ≤ k9 → x_M G l yX12_parsesCommand wsX12_parsesCommand 5 0 0 [.ref (x_b G + 175), .int (nI (3 * i))] (Ew i) none (Fw i)) (hF : ∀ i, i ≤ k9 → Fw i 175 13 = nI (cp i) ∧ cp i ≤ L ∧ Fw i 175 7 = nI L ∧ (∀ j, j < L → Fw i 180 j = nI (tx j))) (hgo : ∀ i, i < k9 → Fw i 175 14 = 0 ∧ tp_c tx L (cp i) 59 = true ∧ Ew (i + 1) = x_p (Fw i) 175 13 (nI (cp i + 1))) (hw9 : Fw k9 175 14 = 0) (hno : ¬ tp_c tx L (cp k9) 59 = true) (hend : L ≤ cp k9) (Gw : Nat → xd) (hG0 : Gw 0 = g_bg (x_p (x_p (x_p (Fw k9) 175 13 (nI (cp k9))) 175 14 0) 175 7 0)) (rv : Nat → Int32) (hco : ∀ w, w < k9 + 1 → x_M G l yX12_carriesOut wsX12_carriesOut 6 0 0 [.ref (x_b G + 175), .int (nI (3 * w))] (Gw w) (some (.int (rv w))) (Gw (w + 1)) ∧ Gw (w + 1) 175 12 = 0) (q9 : Nat) (hq9 : Gw (k9 + 1) 175 3 = nI q9) (hq8 : q9 ≤ 8) : x_M G l yX12_execute wsX12_execute 7 0 0 [.ref (x_b G + 175)] d (some (.int (nI (k9 + 1)))) (g_kp (x_p (Gw (k9 + 1)) 175 12 0) q9) := by
  have iX12 : ∀ w ∈ u_ws RX12 TX12 16, w ∈ wsX12_execute := by decide +kernel
  refine x_start (cc := cX12_execute) (maxL := 5) (ret := (some .int)) (own := RX12) (by decide) rfl rfl (Nat.le_of_ble_eq_true rfl) (lst := [(0, .ref (x_b G + 175))]) rfl ?_
  intro p e s m args below meth c C hr hlocks
  refine a_aload_n C dX12_execute_0 0 rfl ?_
  refine a_iconst C dX12_execute_1 (v := 0) (by decide) ?_
  refine a_putI C (k := 175) iX12 tyX12_ok nmX12 x_k175 rfl (j := 13) rfl (by decide) (by decide +kernel) rfl (ty := .int) (by decide +kernel) rfl rfl dX12_execute_2 ?_
  refine a_aload_n C dX12_execute_5 0 rfl ?_
  refine a_iconst C dX12_execute_6 (v := 0) (by decide) ?_
  refine a_putI C (k := 175) iX12 tyX12_ok nmX12 x_k175 rfl (j := 14) rfl (by decide) (by decide +kernel) rfl (ty := .boolean) (by decide +kernel) rfl rfl dX12_execute_7 ?_
  refine a_iconst C dX12_execute_10 (v := 0) (by decide) ?_
  refine a_istore_n C dX12_execute_11 (by decide) (lst2 := [(1, .int 0), (0, .ref (x_b G + 175))]) rfl ?_
  refine a_iconst C dX12_execute_12 (v := 1) (by decide) ?_
  refine a_istore_n C dX12_execute_13 (by decide) (lst2 := [(2, .int 1), (1, .int 0), (0, .ref (x_b G + 175))]) rfl ?_
  have L14 : ∀ (j i : Nat), i ≤ k9 → k9 < i + j → Ab G p l e (x_rm 7 0 0) s m args below meth c 5 0 0 (MQ below (x_Q G (some (.int (nI (k9 + 1)))) (g_kp (x_p (Gw (k9 + 1)) 175 12 0) q9)) args s 0 0 (x_A G)) 14 [(2, .int 1), (1, .int (nI i)), (0, .ref (x_b G + 175))] [] (Ew i) := by
    intro j
    induction j with
    | zero => intro i h1 h2; exact absurd h2 (by omega)
    | succ j ih =>
      intro i hi hj 
      refine a_iload_n C dX12_execute_14 0 rfl ?_
      refine a_if_eq C dX12_execute_15 (tgt := 71) (by decide) (fun h => absurd h (by decide)) (fun _ => ?_)
      rcases Nat.lt_or_ge i k9 with hik | hik
      · skip
        obtain ⟨hf13, hfL, hf7, hf180⟩ := hF i (by omega)
        obtain ⟨hg14, h59, hE⟩ := hgo i hik
        have hpc9 := hpc i (by omega)
        refine a_aload_n C dX12_execute_18 2 rfl ?_
        refine a_iconst C dX12_execute_19 (v := 3) (by decide) ?_
        refine a_iload_n C dX12_execute_20 1 rfl ?_
        refine a_imul C dX12_execute_21 ?_
        refine a_top (y := (nI (3 * i))) (pk_mul 3 i) ?_
        refine a_callV C (k := 175) (As := [.int (nI (3 * i))]) (rest := []) (hpc9) (cwV 1 C.1.2.2.2.2 gX12_execute_X12_parsesCommand rfl rfl rfl (by decide +kernel) ⟨Nat.le_of_ble_eq_true rfl, Nat.le_of_ble_eq_true rfl⟩) x_k175 (q := (RX12, TX12, 16)) rfl rfl rfl rfl (Nat.le_of_ble_eq_true rfl) dX12_execute_22 ⟨Nat.le_of_ble_eq_true rfl, Nat.le_of_ble_eq_true rfl⟩ ?_
        refine a_iinc C dX12_execute_25 1 rfl (v := (nI (i + 1))) (x_inc i) (by decide) (lst2 := [(1, .int (nI (i + 1))), (2, .int 1), (0, .ref (x_b G + 175))]) rfl ?_
        refine a_aload_n C dX12_execute_28 2 rfl ?_
        refine a_getI C (k := 175) iX12 x_k175 rfl (j := 14) rfl (by decide) (by decide +kernel) dX12_execute_29 ?_
        refine a_top (y := 0) hg14 ?_
        refine a_if_ne C dX12_execute_32 (tgt := 48) (by decide) (fun h => absurd h (by decide)) (fun _ => ?_)
        refine a_aload_n C dX12_execute_35 2 rfl ?_
        refine a_callV C (k := 175) (As := []) (rest := []) (c_M_here l G (Fw i) tx L hL hf7 hf180 ht7 (cp i) hf13 (by omega)) (cwV 0 C.1.2.2.2.2 gX12_execute_X12_here rfl rfl rfl (by decide +kernel) ⟨Nat.le_of_ble_eq_true rfl, Nat.le_of_ble_eq_true rfl⟩) x_k175 (q := (RX12, TX12, 16)) rfl rfl rfl rfl (Nat.le_of_ble_eq_true rfl) dX12_execute_36 ⟨Nat.le_of_ble_eq_true rfl, Nat.le_of_ble_eq_true rfl⟩ ?_
        refine a_bipush C dX12_execute_39 (v := 59) (by decide) ?_
        refine a_icmp_ne C dX12_execute_41 (tgt := 48) (by decide) (fun h => False.elim (h ((tp_h_c (a := 59) ht7 (by omega)).mpr h59))) (fun h41 => ?_)
        refine a_iconst C dX12_execute_44 (v := 1) (by decide) ?_
        refine a_goto C dX12_execute_45 (tgt := 49) (by decide) ?_
        refine a_istore_n C dX12_execute_49 (by decide) (lst2 := [(2, .int 1), (1, .int (nI (i + 1))), (0, .ref (x_b G + 175))]) rfl ?_
        refine a_aload_n C dX12_execute_50 2 rfl ?_
        refine a_dup C dX12_execute_51 rfl ?_
        refine a_getI C (k := 175) iX12 x_k175 rfl (j := 13) rfl (by decide) (by decide +kernel) dX12_execute_52 ?_
        refine a_top (y := (nI (cp i))) hf13 ?_
        refine a_iload_n C dX12_execute_55 0 rfl ?_
        refine a_if_eq C dX12_execute_56 (tgt := 63) (by decide) (fun h => absurd h (by decide)) (fun _ => ?_)
        refine a_iconst C dX12_execute_59 (v := 1) (by decide) ?_
        refine a_goto C dX12_execute_60 (tgt := 64) (by decide) ?_
        refine a_iadd C dX12_execute_64 ?_
        refine a_top (y := (nI (cp i + 1))) (nI_1 _) ?_
        refine a_putI C (k := 175) iX12 tyX12_ok nmX12 x_k175 rfl (j := 13) rfl (by decide) (by decide +kernel) rfl (ty := .int) (by decide +kernel) rfl rfl dX12_execute_65 ?_
        refine a_toD (d2 := Ew (i + 1)) hE.symm ?_
        refine a_goto C dX12_execute_68 (tgt := 14) (by decide) ?_
        refine a_sub (lst2 := [(2, .int 1), (1, .int (nI (i + 1))), (0, .ref (x_b G + 175))]) [0, 1, 2] rfl ?_
        refine a_to (lst2 := [(2, .int 1), (1, .int (nI ((i + 1)))), (0, .ref (x_b G + 175))]) (st2 := []) (d2 := Ew ((i + 1))) rfl rfl rfl ?_
        exact ih (i + 1) (by omega) (by omega) 
      · skip
        have e9 : k9 = i := by omega
        subst e9
        obtain ⟨hf13, hfL, hf7, hf180⟩ := hF k9 (Nat.le_refl _)
        have hpc9 := hpc k9 (Nat.le_refl _)
        refine a_aload_n C dX12_execute_18 2 rfl ?_
        refine a_iconst C dX12_execute_19 (v := 3) (by decide) ?_
        refine a_iload_n C dX12_execute_20 1 rfl ?_
        refine a_imul C dX12_execute_21 ?_
        refine a_top (y := (nI (3 * k9))) (pk_mul 3 k9) ?_
        refine a_callV C (k := 175) (As := [.int (nI (3 * k9))]) (rest := []) (hpc9) (cwV 1 C.1.2.2.2.2 gX12_execute_X12_parsesCommand rfl rfl rfl (by decide +kernel) ⟨Nat.le_of_ble_eq_true rfl, Nat.le_of_ble_eq_true rfl⟩) x_k175 (q := (RX12, TX12, 16)) rfl rfl rfl rfl (Nat.le_of_ble_eq_true rfl) dX12_execute_22 ⟨Nat.le_of_ble_eq_true rfl, Nat.le_of_ble_eq_true rfl⟩ ?_
        refine a_iinc C dX12_execute_25 1 rfl (v := (nI (k9 + 1))) (x_inc k9) (by decide) (lst2 := [(1, .int (nI (k9 + 1))), (2, .int 1), (0, .ref (x_b G + 175))]) rfl ?_
        refine a_aload_n C dX12_execute_28 2 rfl ?_
        refine a_getI C (k := 175) iX12 x_k175 rfl (j := 14) rfl (by decide) (by decide +kernel) dX12_execute_29 ?_
        refine a_top (y := 0) hw9 ?_
        refine a_if_ne C dX12_execute_32 (tgt := 48) (by decide) (fun h => absurd h (by decide)) (fun _ => ?_)
        refine a_aload_n C dX12_execute_35 2 rfl ?_
        refine a_callV C (k := 175) (As := []) (rest := []) (c_M_here l G (Fw k9) tx L hL hf7 hf180 ht7 (cp k9) hf13 (by omega)) (cwV 0 C.1.2.2.2.2 gX12_execute_X12_here rfl rfl rfl (by decide +kernel) ⟨Nat.le_of_ble_eq_true rfl, Nat.le_of_ble_eq_true rfl⟩) x_k175 (q := (RX12, TX12, 16)) rfl rfl rfl rfl (Nat.le_of_ble_eq_true rfl) dX12_execute_36 ⟨Nat.le_of_ble_eq_true rfl, Nat.le_of_ble_eq_true rfl⟩ ?_
        refine a_bipush C dX12_execute_39 (v := 59) (by decide) ?_
        refine a_icmp_ne C dX12_execute_41 (tgt := 48) (by decide) (fun h41 => ?_) (fun h => False.elim (hno ((tp_h_c (a := 59) ht7 (by omega)).mp h)))
        refine a_iconst C dX12_execute_48 (v := 0) (by decide) ?_
        refine a_istore_n C dX12_execute_49 (by decide) (lst2 := [(2, .int 0), (1, .int (nI (k9 + 1))), (0, .ref (x_b G + 175))]) rfl ?_
        refine a_aload_n C dX12_execute_50 2 rfl ?_
        refine a_dup C dX12_execute_51 rfl ?_
        refine a_getI C (k := 175) iX12 x_k175 rfl (j := 13) rfl (by decide) (by decide +kernel) dX12_execute_52 ?_
        refine a_top (y := (nI (cp k9))) hf13 ?_
        refine a_iload_n C dX12_execute_55 0 rfl ?_
        refine a_if_eq C dX12_execute_56 (tgt := 63) (by decide) (fun _ => ?_) (fun h => absurd h (by decide))
        refine a_iconst C dX12_execute_63 (v := 0) (by decide) ?_
        refine a_iadd C dX12_execute_64 ?_
        refine a_top (y := (nI (cp k9))) (x_ad0 _) ?_
        refine a_putI C (k := 175) iX12 tyX12_ok nmX12 x_k175 rfl (j := 13) rfl (by decide) (by decide +kernel) rfl (ty := .int) (by decide +kernel) rfl rfl dX12_execute_65 ?_
        refine a_goto C dX12_execute_68 (tgt := 14) (by decide) ?_
        refine a_iload_n C dX12_execute_14 0 rfl ?_
        refine a_if_eq C dX12_execute_15 (tgt := 71) (by decide) (fun _ => ?_) (fun h => absurd rfl h)
        refine a_aload_n C dX12_execute_71 2 rfl ?_
        refine a_aload_n C dX12_execute_72 2 rfl ?_
        refine a_getI C (k := 175) iX12 x_k175 rfl (j := 14) rfl (by decide) (by decide +kernel) dX12_execute_73 ?_
        refine a_top (y := ((Fw k9) 175 14)) (by first | rw [x_p_row (by omega)] | rfl) ?_
        refine a_top (y := 0) hw9 ?_
        refine a_if_ne C dX12_execute_76 (tgt := 90) (by decide) (fun h => absurd h (by decide)) (fun _ => ?_)
        refine a_aload_n C dX12_execute_79 2 rfl ?_
        refine a_getI C (k := 175) iX12 x_k175 rfl (j := 13) rfl (by decide) (by decide +kernel) dX12_execute_80 ?_
        refine a_top (y := ((nI (cp k9)))) (by first | rw [x_p_at] | rfl) ?_
        refine a_top (y := (nI (cp k9))) rfl ?_
        refine a_aload_n C dX12_execute_83 2 rfl ?_
        refine a_getI C (k := 175) iX12 x_k175 rfl (j := 7) rfl (by decide) (by decide +kernel) dX12_execute_84 ?_
        refine a_top (y := ((Fw k9) 175 7)) (by first | rw [x_p_row (by omega)] | rfl) ?_
        refine a_top (y := (nI L)) hf7 ?_
        refine a_icmp_ge C dX12_execute_87 (tgt := 94) (by decide) (fun h87 => ?_) (fun h => False.elim (h (nI_le hend (by omega))))
        refine a_iconst C dX12_execute_94 (v := 0) (by decide) ?_
        refine a_putI C (k := 175) iX12 tyX12_ok nmX12 x_k175 rfl (j := 14) rfl (by decide) (by decide +kernel) rfl (ty := .boolean) (by decide +kernel) rfl rfl dX12_execute_95 ?_
        refine a_aload_n C dX12_execute_98 2 rfl ?_
        refine a_iconst C dX12_execute_99 (v := 0) (by decide) ?_
        refine a_putI C (k := 175) iX12 tyX12_ok nmX12 x_k175 rfl (j := 7) rfl (by decide) (by decide +kernel) rfl (ty := .int) (by decide +kernel) rfl rfl dX12_execute_100 ?_
        refine a_aload_n C dX12_execute_103 2 rfl ?_
        refine a_getI C (k := 175) iX12 x_k175 rfl (j := 14) rfl (by decide) (by decide +kernel) dX12_execute_104 ?_
        refine a_top (y := 0) (by first | rw [x_p_row (by omega), x_p_at] | rfl) ?_
        refine a_top (y := 0) rfl ?_
        refine a_if_eq C dX12_execute_107 (tgt := 124) (by decide) (fun _ => ?_) (fun h => absurd h (by decide))
        refine a_aload_n C dX12_execute_124 2 rfl ?_
        refine a_callV C (k := 175) (As := []) (rest := []) (c_M_begin l G (x_p (x_p (x_p (Fw k9) 175 13 (nI (cp k9))) 175 14 0) 175 7 0)) (cwV 0 C.1.2.2.2.2 gX12_execute_X12_begin rfl rfl rfl (by decide +kernel) ⟨Nat.le_of_ble_eq_true rfl, Nat.le_of_ble_eq_true rfl⟩) x_k175 (q := (RX12, TX12, 16)) rfl rfl rfl rfl (Nat.le_of_ble_eq_true rfl) dX12_execute_125 ⟨Nat.le_of_ble_eq_true rfl, Nat.le_of_ble_eq_true rfl⟩ ?_
        refine a_toD (d2 := Gw 0) hG0.symm ?_
        refine a_iconst C dX12_execute_128 (v := 0) (by decide) ?_
        refine a_istore_n C dX12_execute_129 (by decide) (lst2 := [(3, .int 0), (2, .int 0), (1, .int (nI (k9 + 1))), (0, .ref (x_b G + 175))]) rfl ?_
        have L130 : ∀ (j w : Nat), w ≤ (k9 + 1) → (k9 + 1) < w + j → Ab G p l e (x_rm 7 0 0) s m args below meth c 5 0 0 (MQ below (x_Q G (some (.int (nI (k9 + 1)))) (g_kp (x_p (Gw (k9 + 1)) 175 12 0) q9)) args s 0 0 (x_A G)) 130 [(3, .int (nI w)), (2, .int 0), (1, .int (nI (k9 + 1))), (0, .ref (x_b G + 175))] [] (Gw w) := by
          intro j
          induction j with
          | zero => intro w h1 h2; exact absurd h2 (by omega)
          | succ j ihw =>
            intro w hiw hj 
            refine a_iload_n C dX12_execute_130 0 rfl ?_
            refine a_iload_n C dX12_execute_131 2 rfl ?_
            refine a_icmp_ge C dX12_execute_132 (tgt := 174) (by decide) (fun h132 => ?_) (fun h132 => ?_)
            · skip
              have e := x_ge h132 hiw (by omega)
              have e9 := e.symm
              subst e9
              clear e
              refine a_aload_n C dX12_execute_174 3 rfl ?_
              refine a_aload_n C dX12_execute_175 3 rfl ?_
              refine a_iload_n C dX12_execute_176 2 rfl ?_
              refine a_callV C (k := 175) (As := [.int (nI (k9 + 1))]) (rest := [.ref (x_b G + 175)]) (c_M_done l G (Gw (k9 + 1)) (nI (k9 + 1))) (cwV 1 C.1.2.2.2.2 gX12_execute_X12_done rfl rfl rfl (by decide +kernel) ⟨Nat.le_of_ble_eq_true rfl, Nat.le_of_ble_eq_true rfl⟩) x_k175 (q := (RX12, TX12, 16)) rfl rfl rfl rfl (Nat.le_of_ble_eq_true rfl) dX12_execute_177 ⟨Nat.le_of_ble_eq_true rfl, Nat.le_of_ble_eq_true rfl⟩ ?_
              refine a_callV C (k := 175) (As := [.int (nI (k9 + 1))]) (rest := []) (c_M_kept l G (x_p (Gw (k9 + 1)) 175 12 0) (nI (k9 + 1)) q9 (by rw [x_p_at]) (by rw [x_p_row (by omega)]; exact hq9) hq8) (cwV 1 C.1.2.2.2.2 gX12_execute_X12_kept rfl rfl rfl (by decide +kernel) ⟨Nat.le_of_ble_eq_true rfl, Nat.le_of_ble_eq_true rfl⟩) x_k175 (q := (RX12, TX12, 16)) rfl rfl rfl rfl (Nat.le_of_ble_eq_true rfl) dX12_execute_180 ⟨Nat.le_of_ble_eq_true rfl, Nat.le_of_ble_eq_true rfl⟩ ?_
              exact a_iret C hlocks hr dX12_execute_183 rfl rfl
            · skip
              have hltw := x_nge h132 hiw
              obtain ⟨hc1, hc2⟩ := hco w hltw
              refine a_aload_n C dX12_execute_135 3 rfl ?_
              refine a_iconst C dX12_execute_136 (v := 3) (by decide) ?_
              refine a_iload_n C dX12_execute_137 0 rfl ?_
              refine a_imul C dX12_execute_138 ?_
              refine a_top (y := (nI (3 * w))) (pk_mul 3 w) ?_
              refine a_callV C (k := 175) (As := [.int (nI (3 * w))]) (rest := []) (hc1) (cwV 1 C.1.2.2.2.2 gX12_execute_X12_carriesOut rfl rfl rfl (by decide +kernel) ⟨Nat.le_of_ble_eq_true rfl, Nat.le_of_ble_eq_true rfl⟩) x_k175 (q := (RX12, TX12, 16)) rfl rfl rfl rfl (Nat.le_of_ble_eq_true rfl) dX12_execute_139 ⟨Nat.le_of_ble_eq_true rfl, Nat.le_of_ble_eq_true rfl⟩ ?_
              refine a_istore C dX12_execute_142 (by decide) (lst2 := [(4, .int (rv w)), (3, .int (nI w)), (2, .int 0), (1, .int (nI (k9 + 1))), (0, .ref (x_b G + 175))]) rfl ?_
              refine a_aload_n C dX12_execute_144 4 rfl ?_
              refine a_getI C (k := 175) iX12 x_k175 rfl (j := 12) rfl (by decide) (by decide +kernel) dX12_execute_145 ?_
              refine a_top (y := 0) hc2 ?_
              refine a_if_eq C dX12_execute_148 (tgt := 168) (by decide) (fun _ => ?_) (fun h => absurd h (by decide))
              refine a_iinc C dX12_execute_168 1 rfl (v := (nI (w + 1))) (x_inc w) (by decide) (lst2 := [(3, .int (nI (w + 1))), (4, .int (rv w)), (2, .int 0), (1, .int (nI (k9 + 1))), (0, .ref (x_b G + 175))]) rfl ?_
              refine a_goto C dX12_execute_171 (tgt := 130) (by decide) ?_
              refine a_sub (lst2 := [(3, .int (nI (w + 1))), (2, .int 0), (1, .int (nI (k9 + 1))), (0, .ref (x_b G + 175))]) [0, 2, 3, 4] rfl ?_
              refine a_to (lst2 := [(3, .int (nI ((w + 1)))), (2, .int 0), (1, .int (nI (k9 + 1))), (0, .ref (x_b G + 175))]) (st2 := []) (d2 := Gw ((w + 1))) rfl rfl rfl ?_
              exact ihw (w + 1) (by omega) (by omega) 
        refine a_sub (lst2 := [(3, .int 0), (2, .int 0), (1, .int (nI (k9 + 1))), (0, .ref (x_b G + 175))]) [0, 1, 2, 3] rfl ?_
        exact L130 ((k9 + 1) + 1) 0 (by omega) (by omega) 
  refine a_sub (lst2 := [(2, .int 1), (1, .int 0), (0, .ref (x_b G + 175))]) [0, 1, 2] rfl ?_
  refine a_toD (d2 := Ew 0) hE0.symm ?_
  exact L14 (k9 + 1) 0 (by omega) (by omega)

set_option maxHeartbeats 1000000 in
set_option maxRecDepth 100000 in
theorem c_M_execute_f (l : Launch) (G : xG) (d : xd) (tx : Nat → Nat) (L : Nat) (hL : L ≤ 60) (ht7 : ∀ j, j < L → tx j < 128) (Ew Fw : Nat → xd) (cp : Nat → Nat) (k9 : Nat) (hk9 : k9 ≤ 15) (hE0 : Ew 0 = x_p (x_p d 175 13 0) 175 14 0) (hpc : ∀ i, i ≤ k9 → x_M G l yX12_parsesCommand wsX12_parsesCommand 5 0 0 [.ref (x_b G + 175), .int (nI (3 * i))] (Ew i) none (Fw i)) (hF : ∀ i, i ≤ k9 → Fw i 175 13 = nI (cp i) ∧ cp i ≤ L ∧ Fw i 175 7 = nI L ∧ (∀ j, j < L → Fw i 180 j = nI (tx j))) (hgo : ∀ i, i < k9 → Fw i 175 14 = 0 ∧ tp_c tx L (cp i) 59 = true ∧ Ew (i + 1) = x_p (Fw i) 175 13 (nI (cp i + 1))) (hw9 : Fw k9 175 14 = 0) (hno : ¬ tp_c tx L (cp k9) 59 = true) (hend : L ≤ cp k9) (Gw : Nat → xd) (hG0 : Gw 0 = g_bg (x_p (x_p (x_p (Fw k9) 175 13 (nI (cp k9))) 175 14 0) 175 7 0)) (rv : Nat → Int32) (f9 : Nat) (hf9 : f9 < k9 + 1) (hco : ∀ w, w < f9 → x_M G l yX12_carriesOut wsX12_carriesOut 6 0 0 [.ref (x_b G + 175), .int (nI (3 * w))] (Gw w) (some (.int (rv w))) (Gw (w + 1)) ∧ Gw (w + 1) 175 12 = 0) (rb : Int32) (Zw : xd) (hbad : x_M G l yX12_carriesOut wsX12_carriesOut 6 0 0 [.ref (x_b G + 175), .int (nI (3 * f9))] (Gw f9) (some (.int (rb))) (Zw)) (hz : ¬ Zw 175 12 = 0) : x_M G l yX12_execute wsX12_execute 7 0 0 [.ref (x_b G + 175)] d (some (.int 0)) (g_kf (x_p (x_p Zw 175 9 (nI f9)) 175 12 2)) := by
  have iX12 : ∀ w ∈ u_ws RX12 TX12 16, w ∈ wsX12_execute := by decide +kernel
  refine x_start (cc := cX12_execute) (maxL := 5) (ret := (some .int)) (own := RX12) (by decide) rfl rfl (Nat.le_of_ble_eq_true rfl) (lst := [(0, .ref (x_b G + 175))]) rfl ?_
  intro p e s m args below meth c C hr hlocks
  refine a_aload_n C dX12_execute_0 0 rfl ?_
  refine a_iconst C dX12_execute_1 (v := 0) (by decide) ?_
  refine a_putI C (k := 175) iX12 tyX12_ok nmX12 x_k175 rfl (j := 13) rfl (by decide) (by decide +kernel) rfl (ty := .int) (by decide +kernel) rfl rfl dX12_execute_2 ?_
  refine a_aload_n C dX12_execute_5 0 rfl ?_
  refine a_iconst C dX12_execute_6 (v := 0) (by decide) ?_
  refine a_putI C (k := 175) iX12 tyX12_ok nmX12 x_k175 rfl (j := 14) rfl (by decide) (by decide +kernel) rfl (ty := .boolean) (by decide +kernel) rfl rfl dX12_execute_7 ?_
  refine a_iconst C dX12_execute_10 (v := 0) (by decide) ?_
  refine a_istore_n C dX12_execute_11 (by decide) (lst2 := [(1, .int 0), (0, .ref (x_b G + 175))]) rfl ?_
  refine a_iconst C dX12_execute_12 (v := 1) (by decide) ?_
  refine a_istore_n C dX12_execute_13 (by decide) (lst2 := [(2, .int 1), (1, .int 0), (0, .ref (x_b G + 175))]) rfl ?_
  have L14 : ∀ (j i : Nat), i ≤ k9 → k9 < i + j → Ab G p l e (x_rm 7 0 0) s m args below meth c 5 0 0 (MQ below (x_Q G (some (.int 0)) (g_kf (x_p (x_p Zw 175 9 (nI f9)) 175 12 2))) args s 0 0 (x_A G)) 14 [(2, .int 1), (1, .int (nI i)), (0, .ref (x_b G + 175))] [] (Ew i) := by
    intro j
    induction j with
    | zero => intro i h1 h2; exact absurd h2 (by omega)
    | succ j ih =>
      intro i hi hj 
      refine a_iload_n C dX12_execute_14 0 rfl ?_
      refine a_if_eq C dX12_execute_15 (tgt := 71) (by decide) (fun h => absurd h (by decide)) (fun _ => ?_)
      rcases Nat.lt_or_ge i k9 with hik | hik
      · skip
        obtain ⟨hf13, hfL, hf7, hf180⟩ := hF i (by omega)
        obtain ⟨hg14, h59, hE⟩ := hgo i hik
        have hpc9 := hpc i (by omega)
        refine a_aload_n C dX12_execute_18 2 rfl ?_
        refine a_iconst C dX12_execute_19 (v := 3) (by decide) ?_
        refine a_iload_n C dX12_execute_20 1 rfl ?_
        refine a_imul C dX12_execute_21 ?_
        refine a_top (y := (nI (3 * i))) (pk_mul 3 i) ?_
        refine a_callV C (k := 175) (As := [.int (nI (3 * i))]) (rest := []) (hpc9) (cwV 1 C.1.2.2.2.2 gX12_execute_X12_parsesCommand rfl rfl rfl (by decide +kernel) ⟨Nat.le_of_ble_eq_true rfl, Nat.le_of_ble_eq_true rfl⟩) x_k175 (q := (RX12, TX12, 16)) rfl rfl rfl rfl (Nat.le_of_ble_eq_true rfl) dX12_execute_22 ⟨Nat.le_of_ble_eq_true rfl, Nat.le_of_ble_eq_true rfl⟩ ?_
        refine a_iinc C dX12_execute_25 1 rfl (v := (nI (i + 1))) (x_inc i) (by decide) (lst2 := [(1, .int (nI (i + 1))), (2, .int 1), (0, .ref (x_b G + 175))]) rfl ?_
        refine a_aload_n C dX12_execute_28 2 rfl ?_
        refine a_getI C (k := 175) iX12 x_k175 rfl (j := 14) rfl (by decide) (by decide +kernel) dX12_execute_29 ?_
        refine a_top (y := 0) hg14 ?_
        refine a_if_ne C dX12_execute_32 (tgt := 48) (by decide) (fun h => absurd h (by decide)) (fun _ => ?_)
        refine a_aload_n C dX12_execute_35 2 rfl ?_
        refine a_callV C (k := 175) (As := []) (rest := []) (c_M_here l G (Fw i) tx L hL hf7 hf180 ht7 (cp i) hf13 (by omega)) (cwV 0 C.1.2.2.2.2 gX12_execute_X12_here rfl rfl rfl (by decide +kernel) ⟨Nat.le_of_ble_eq_true rfl, Nat.le_of_ble_eq_true rfl⟩) x_k175 (q := (RX12, TX12, 16)) rfl rfl rfl rfl (Nat.le_of_ble_eq_true rfl) dX12_execute_36 ⟨Nat.le_of_ble_eq_true rfl, Nat.le_of_ble_eq_true rfl⟩ ?_
        refine a_bipush C dX12_execute_39 (v := 59) (by decide) ?_
        refine a_icmp_ne C dX12_execute_41 (tgt := 48) (by decide) (fun h => False.elim (h ((tp_h_c (a := 59) ht7 (by omega)).mpr h59))) (fun h41 => ?_)
        refine a_iconst C dX12_execute_44 (v := 1) (by decide) ?_
        refine a_goto C dX12_execute_45 (tgt := 49) (by decide) ?_
        refine a_istore_n C dX12_execute_49 (by decide) (lst2 := [(2, .int 1), (1, .int (nI (i + 1))), (0, .ref (x_b G + 175))]) rfl ?_
        refine a_aload_n C dX12_execute_50 2 rfl ?_
        refine a_dup C dX12_execute_51 rfl ?_
        refine a_getI C (k := 175) iX12 x_k175 rfl (j := 13) rfl (by decide) (by decide +kernel) dX12_execute_52 ?_
        refine a_top (y := (nI (cp i))) hf13 ?_
        refine a_iload_n C dX12_execute_55 0 rfl ?_
        refine a_if_eq C dX12_execute_56 (tgt := 63) (by decide) (fun h => absurd h (by decide)) (fun _ => ?_)
        refine a_iconst C dX12_execute_59 (v := 1) (by decide) ?_
        refine a_goto C dX12_execute_60 (tgt := 64) (by decide) ?_
        refine a_iadd C dX12_execute_64 ?_
        refine a_top (y := (nI (cp i + 1))) (nI_1 _) ?_
        refine a_putI C (k := 175) iX12 tyX12_ok nmX12 x_k175 rfl (j := 13) rfl (by decide) (by decide +kernel) rfl (ty := .int) (by decide +kernel) rfl rfl dX12_execute_65 ?_
        refine a_toD (d2 := Ew (i + 1)) hE.symm ?_
        refine a_goto C dX12_execute_68 (tgt := 14) (by decide) ?_
        refine a_sub (lst2 := [(2, .int 1), (1, .int (nI (i + 1))), (0, .ref (x_b G + 175))]) [0, 1, 2] rfl ?_
        refine a_to (lst2 := [(2, .int 1), (1, .int (nI ((i + 1)))), (0, .ref (x_b G + 175))]) (st2 := []) (d2 := Ew ((i + 1))) rfl rfl rfl ?_
        exact ih (i + 1) (by omega) (by omega) 
      · skip
        have e9 : k9 = i := by omega
        subst e9
        obtain ⟨hf13, hfL, hf7, hf180⟩ := hF k9 (Nat.le_refl _)
        have hpc9 := hpc k9 (Nat.le_refl _)
        refine a_aload_n C dX12_execute_18 2 rfl ?_
        refine a_iconst C dX12_execute_19 (v := 3) (by decide) ?_
        refine a_iload_n C dX12_execute_20 1 rfl ?_
        refine a_imul C dX12_execute_21 ?_
        refine a_top (y := (nI (3 * k9))) (pk_mul 3 k9) ?_
        refine a_callV C (k := 175) (As := [.int (nI (3 * k9))]) (rest := []) (hpc9) (cwV 1 C.1.2.2.2.2 gX12_execute_X12_parsesCommand rfl rfl rfl (by decide +kernel) ⟨Nat.le_of_ble_eq_true rfl, Nat.le_of_ble_eq_true rfl⟩) x_k175 (q := (RX12, TX12, 16)) rfl rfl rfl rfl (Nat.le_of_ble_eq_true rfl) dX12_execute_22 ⟨Nat.le_of_ble_eq_true rfl, Nat.le_of_ble_eq_true rfl⟩ ?_
        refine a_iinc C dX12_execute_25 1 rfl (v := (nI (k9 + 1))) (x_inc k9) (by decide) (lst2 := [(1, .int (nI (k9 + 1))), (2, .int 1), (0, .ref (x_b G + 175))]) rfl ?_
        refine a_aload_n C dX12_execute_28 2 rfl ?_
        refine a_getI C (k := 175) iX12 x_k175 rfl (j := 14) rfl (by decide) (by decide +kernel) dX12_execute_29 ?_
        refine a_top (y := 0) hw9 ?_
        refine a_if_ne C dX12_execute_32 (tgt := 48) (by decide) (fun h => absurd h (by decide)) (fun _ => ?_)
        refine a_aload_n C dX12_execute_35 2 rfl ?_
        refine a_callV C (k := 175) (As := []) (rest := []) (c_M_here l G (Fw k9) tx L hL hf7 hf180 ht7 (cp k9) hf13 (by omega)) (cwV 0 C.1.2.2.2.2 gX12_execute_X12_here rfl rfl rfl (by decide +kernel) ⟨Nat.le_of_ble_eq_true rfl, Nat.le_of_ble_eq_true rfl⟩) x_k175 (q := (RX12, TX12, 16)) rfl rfl rfl rfl (Nat.le_of_ble_eq_true rfl) dX12_execute_36 ⟨Nat.le_of_ble_eq_true rfl, Nat.le_of_ble_eq_true rfl⟩ ?_
        refine a_bipush C dX12_execute_39 (v := 59) (by decide) ?_
        refine a_icmp_ne C dX12_execute_41 (tgt := 48) (by decide) (fun h41 => ?_) (fun h => False.elim (hno ((tp_h_c (a := 59) ht7 (by omega)).mp h)))
        refine a_iconst C dX12_execute_48 (v := 0) (by decide) ?_
        refine a_istore_n C dX12_execute_49 (by decide) (lst2 := [(2, .int 0), (1, .int (nI (k9 + 1))), (0, .ref (x_b G + 175))]) rfl ?_
        refine a_aload_n C dX12_execute_50 2 rfl ?_
        refine a_dup C dX12_execute_51 rfl ?_
        refine a_getI C (k := 175) iX12 x_k175 rfl (j := 13) rfl (by decide) (by decide +kernel) dX12_execute_52 ?_
        refine a_top (y := (nI (cp k9))) hf13 ?_
        refine a_iload_n C dX12_execute_55 0 rfl ?_
        refine a_if_eq C dX12_execute_56 (tgt := 63) (by decide) (fun _ => ?_) (fun h => absurd h (by decide))
        refine a_iconst C dX12_execute_63 (v := 0) (by decide) ?_
        refine a_iadd C dX12_execute_64 ?_
        refine a_top (y := (nI (cp k9))) (x_ad0 _) ?_
        refine a_putI C (k := 175) iX12 tyX12_ok nmX12 x_k175 rfl (j := 13) rfl (by decide) (by decide +kernel) rfl (ty := .int) (by decide +kernel) rfl rfl dX12_execute_65 ?_
        refine a_goto C dX12_execute_68 (tgt := 14) (by decide) ?_
        refine a_iload_n C dX12_execute_14 0 rfl ?_
        refine a_if_eq C dX12_execute_15 (tgt := 71) (by decide) (fun _ => ?_) (fun h => absurd rfl h)
        refine a_aload_n C dX12_execute_71 2 rfl ?_
        refine a_aload_n C dX12_execute_72 2 rfl ?_
        refine a_getI C (k := 175) iX12 x_k175 rfl (j := 14) rfl (by decide) (by decide +kernel) dX12_execute_73 ?_
        refine a_top (y := ((Fw k9) 175 14)) (by first | rw [x_p_row (by omega)] | rfl) ?_
        refine a_top (y := 0) hw9 ?_
        refine a_if_ne C dX12_execute_76 (tgt := 90) (by decide) (fun h => absurd h (by decide)) (fun _ => ?_)
        refine a_aload_n C dX12_execute_79 2 rfl ?_
        refine a_getI C (k := 175) iX12 x_k175 rfl (j := 13) rfl (by decide) (by decide +kernel) dX12_execute_80 ?_
        refine a_top (y := ((nI (cp k9)))) (by first | rw [x_p_at] | rfl) ?_
        refine a_top (y := (nI (cp k9))) rfl ?_
        refine a_aload_n C dX12_execute_83 2 rfl ?_
        refine a_getI C (k := 175) iX12 x_k175 rfl (j := 7) rfl (by decide) (by decide +kernel) dX12_execute_84 ?_
        refine a_top (y := ((Fw k9) 175 7)) (by first | rw [x_p_row (by omega)] | rfl) ?_
        refine a_top (y := (nI L)) hf7 ?_
        refine a_icmp_ge C dX12_execute_87 (tgt := 94) (by decide) (fun h87 => ?_) (fun h => False.elim (h (nI_le hend (by omega))))
        refine a_iconst C dX12_execute_94 (v := 0) (by decide) ?_
        refine a_putI C (k := 175) iX12 tyX12_ok nmX12 x_k175 rfl (j := 14) rfl (by decide) (by decide +kernel) rfl (ty := .boolean) (by decide +kernel) rfl rfl dX12_execute_95 ?_
        refine a_aload_n C dX12_execute_98 2 rfl ?_
        refine a_iconst C dX12_execute_99 (v := 0) (by decide) ?_
        refine a_putI C (k := 175) iX12 tyX12_ok nmX12 x_k175 rfl (j := 7) rfl (by decide) (by decide +kernel) rfl (ty := .int) (by decide +kernel) rfl rfl dX12_execute_100 ?_
        refine a_aload_n C dX12_execute_103 2 rfl ?_
        refine a_getI C (k := 175) iX12 x_k175 rfl (j := 14) rfl (by decide) (by decide +kernel) dX12_execute_104 ?_
        refine a_top (y := 0) (by first | rw [x_p_row (by omega), x_p_at] | rfl) ?_
        refine a_top (y := 0) rfl ?_
        refine a_if_eq C dX12_execute_107 (tgt := 124) (by decide) (fun _ => ?_) (fun h => absurd h (by decide))
        refine a_aload_n C dX12_execute_124 2 rfl ?_
        refine a_callV C (k := 175) (As := []) (rest := []) (c_M_begin l G (x_p (x_p (x_p (Fw k9) 175 13 (nI (cp k9))) 175 14 0) 175 7 0)) (cwV 0 C.1.2.2.2.2 gX12_execute_X12_begin rfl rfl rfl (by decide +kernel) ⟨Nat.le_of_ble_eq_true rfl, Nat.le_of_ble_eq_true rfl⟩) x_k175 (q := (RX12, TX12, 16)) rfl rfl rfl rfl (Nat.le_of_ble_eq_true rfl) dX12_execute_125 ⟨Nat.le_of_ble_eq_true rfl, Nat.le_of_ble_eq_true rfl⟩ ?_
        refine a_toD (d2 := Gw 0) hG0.symm ?_
        refine a_iconst C dX12_execute_128 (v := 0) (by decide) ?_
        refine a_istore_n C dX12_execute_129 (by decide) (lst2 := [(3, .int 0), (2, .int 0), (1, .int (nI (k9 + 1))), (0, .ref (x_b G + 175))]) rfl ?_
        have L130 : ∀ (j w : Nat), w ≤ f9 → f9 < w + j → Ab G p l e (x_rm 7 0 0) s m args below meth c 5 0 0 (MQ below (x_Q G (some (.int 0)) (g_kf (x_p (x_p Zw 175 9 (nI f9)) 175 12 2))) args s 0 0 (x_A G)) 130 [(3, .int (nI w)), (2, .int 0), (1, .int (nI (k9 + 1))), (0, .ref (x_b G + 175))] [] (Gw w) := by
          intro j
          induction j with
          | zero => intro w h1 h2; exact absurd h2 (by omega)
          | succ j ihw =>
            intro w hiw hj 
            refine a_iload_n C dX12_execute_130 0 rfl ?_
            refine a_iload_n C dX12_execute_131 2 rfl ?_
            refine a_icmp_ge C dX12_execute_132 (tgt := 174) (by decide) (fun h => absurd h (nI_ge (by omega) (by omega))) (fun h132 => ?_)
            rcases Nat.lt_or_ge w f9 with hwf | hwf
            · skip
              obtain ⟨hc1, hc2⟩ := hco w hwf
              refine a_aload_n C dX12_execute_135 3 rfl ?_
              refine a_iconst C dX12_execute_136 (v := 3) (by decide) ?_
              refine a_iload_n C dX12_execute_137 0 rfl ?_
              refine a_imul C dX12_execute_138 ?_
              refine a_top (y := (nI (3 * w))) (pk_mul 3 w) ?_
              refine a_callV C (k := 175) (As := [.int (nI (3 * w))]) (rest := []) (hc1) (cwV 1 C.1.2.2.2.2 gX12_execute_X12_carriesOut rfl rfl rfl (by decide +kernel) ⟨Nat.le_of_ble_eq_true rfl, Nat.le_of_ble_eq_true rfl⟩) x_k175 (q := (RX12, TX12, 16)) rfl rfl rfl rfl (Nat.le_of_ble_eq_true rfl) dX12_execute_139 ⟨Nat.le_of_ble_eq_true rfl, Nat.le_of_ble_eq_true rfl⟩ ?_
              refine a_istore C dX12_execute_142 (by decide) (lst2 := [(4, .int (rv w)), (3, .int (nI w)), (2, .int 0), (1, .int (nI (k9 + 1))), (0, .ref (x_b G + 175))]) rfl ?_
              refine a_aload_n C dX12_execute_144 4 rfl ?_
              refine a_getI C (k := 175) iX12 x_k175 rfl (j := 12) rfl (by decide) (by decide +kernel) dX12_execute_145 ?_
              refine a_top (y := 0) hc2 ?_
              refine a_if_eq C dX12_execute_148 (tgt := 168) (by decide) (fun _ => ?_) (fun h => absurd h (by decide))
              refine a_iinc C dX12_execute_168 1 rfl (v := (nI (w + 1))) (x_inc w) (by decide) (lst2 := [(3, .int (nI (w + 1))), (4, .int (rv w)), (2, .int 0), (1, .int (nI (k9 + 1))), (0, .ref (x_b G + 175))]) rfl ?_
              refine a_goto C dX12_execute_171 (tgt := 130) (by decide) ?_
              refine a_sub (lst2 := [(3, .int (nI (w + 1))), (2, .int 0), (1, .int (nI (k9 + 1))), (0, .ref (x_b G + 175))]) [0, 2, 3, 4] rfl ?_
              refine a_to (lst2 := [(3, .int (nI ((w + 1)))), (2, .int 0), (1, .int (nI (k9 + 1))), (0, .ref (x_b G + 175))]) (st2 := []) (d2 := Gw ((w + 1))) rfl rfl rfl ?_
              exact ihw (w + 1) (by omega) (by omega) 
            · skip
              have e9 : f9 = w := by omega
              subst e9
              refine a_aload_n C dX12_execute_135 3 rfl ?_
              refine a_iconst C dX12_execute_136 (v := 3) (by decide) ?_
              refine a_iload_n C dX12_execute_137 0 rfl ?_
              refine a_imul C dX12_execute_138 ?_
              refine a_top (y := (nI (3 * f9))) (pk_mul 3 f9) ?_
              refine a_callV C (k := 175) (As := [.int (nI (3 * f9))]) (rest := []) (hbad) (cwV 1 C.1.2.2.2.2 gX12_execute_X12_carriesOut rfl rfl rfl (by decide +kernel) ⟨Nat.le_of_ble_eq_true rfl, Nat.le_of_ble_eq_true rfl⟩) x_k175 (q := (RX12, TX12, 16)) rfl rfl rfl rfl (Nat.le_of_ble_eq_true rfl) dX12_execute_139 ⟨Nat.le_of_ble_eq_true rfl, Nat.le_of_ble_eq_true rfl⟩ ?_
              refine a_istore C dX12_execute_142 (by decide) (lst2 := [(4, .int rb), (3, .int (nI f9)), (2, .int 0), (1, .int (nI (k9 + 1))), (0, .ref (x_b G + 175))]) rfl ?_
              refine a_aload_n C dX12_execute_144 4 rfl ?_
              refine a_getI C (k := 175) iX12 x_k175 rfl (j := 12) rfl (by decide) (by decide +kernel) dX12_execute_145 ?_
              refine a_if_eq C dX12_execute_148 (tgt := 168) (by decide) (fun h => False.elim (hz h)) (fun h148 => ?_)
              refine a_aload_n C dX12_execute_151 4 rfl ?_
              refine a_iload_n C dX12_execute_152 1 rfl ?_
              refine a_putI C (k := 175) iX12 tyX12_ok nmX12 x_k175 rfl (j := 9) rfl (by decide) (by decide +kernel) rfl (ty := .int) (by decide +kernel) rfl rfl dX12_execute_153 ?_
              refine a_aload_n C dX12_execute_156 4 rfl ?_
              refine a_iconst C dX12_execute_157 (v := 2) (by decide) ?_
              refine a_putI C (k := 175) iX12 tyX12_ok nmX12 x_k175 rfl (j := 12) rfl (by decide) (by decide +kernel) rfl (ty := .int) (by decide +kernel) rfl rfl dX12_execute_158 ?_
              refine a_aload_n C dX12_execute_161 4 rfl ?_
              refine a_iload C dX12_execute_162 0 rfl ?_
              refine a_callV C (k := 175) (As := [.int rb]) (rest := []) (c_M_kept_f l G (x_p (x_p Zw 175 9 (nI f9)) 175 12 2) rb (by rw [x_p_at]; decide)) (cwV 1 C.1.2.2.2.2 gX12_execute_X12_kept rfl rfl rfl (by decide +kernel) ⟨Nat.le_of_ble_eq_true rfl, Nat.le_of_ble_eq_true rfl⟩) x_k175 (q := (RX12, TX12, 16)) rfl rfl rfl rfl (Nat.le_of_ble_eq_true rfl) dX12_execute_164 ⟨Nat.le_of_ble_eq_true rfl, Nat.le_of_ble_eq_true rfl⟩ ?_
              exact a_iret C hlocks hr dX12_execute_167 rfl rfl
        refine a_sub (lst2 := [(3, .int 0), (2, .int 0), (1, .int (nI (k9 + 1))), (0, .ref (x_b G + 175))]) [0, 1, 2, 3] rfl ?_
        exact L130 (f9 + 1) 0 (by omega) (by omega) 
  refine a_sub (lst2 := [(2, .int 1), (1, .int 0), (0, .ref (x_b G + 175))]) [0, 1, 2] rfl ?_
  refine a_toD (d2 := Ew 0) hE0.symm ?_
  exact L14 (k9 + 1) 0 (by omega) (by omega)

set_option maxHeartbeats 1000000 in
set_option maxRecDepth 100000 in
theorem c_M_carriesOut_0 (l : Launch) (G : xG) (d : xd) (k9 : Nat) (hk9 : k9 < 177) (hv : d 182 k9 = nI 108) (a b : Int32) (ha : d 182 (k9 + 1) = a) (hb : d 182 (k9 + 2) = b) (r9 : Int32) (d9 : xd) (hop : x_M G l yX12_adds wsX12_adds 3 0 0 [.ref (x_b G + 175), .int a, .int b] d (some (.int r9)) d9) : x_M G l yX12_carriesOut wsX12_carriesOut 6 0 0 [.ref (x_b G + 175), .int (nI k9)] d (some (.int r9)) d9 := by
  have iX12 : ∀ w ∈ u_ws RX12 TX12 16, w ∈ wsX12_carriesOut := by decide +kernel
  refine x_start (cc := cX12_carriesOut) (maxL := 4) (ret := (some .int)) (own := RX12) (by decide) rfl rfl (Nat.le_of_ble_eq_true rfl) (lst := [(0, .ref (x_b G + 175)), (1, .int (nI k9))]) rfl ?_
  intro p e s m args below meth c C hr hlocks
  refine a_aload_n C dX12_carriesOut_0 0 rfl ?_
  refine a_getR C (k := 175) iX12 x_k175 rfl (j := 15) rfl (by decide) (by decide +kernel) dX12_carriesOut_1 ?_
  refine a_iload_n C dX12_carriesOut_4 1 rfl ?_
  refine a_iconst C dX12_carriesOut_5 (v := 1) (by decide) ?_
  refine a_iadd C dX12_carriesOut_6 ?_
  refine a_ialdN C (k := 182) x_k182 (i := k9 + 1) (x_add2 (a := k9) (b := 1) rfl rfl) (by omega) (by first | decide | omega) dX12_carriesOut_7 ?_
  refine a_top (y := a) ha ?_
  refine a_istore_n C dX12_carriesOut_8 (by decide) (lst2 := [(2, .int a), (0, .ref (x_b G + 175)), (1, .int (nI k9))]) rfl ?_
  refine a_aload_n C dX12_carriesOut_9 1 rfl ?_
  refine a_getR C (k := 175) iX12 x_k175 rfl (j := 15) rfl (by decide) (by decide +kernel) dX12_carriesOut_10 ?_
  refine a_iload_n C dX12_carriesOut_13 2 rfl ?_
  refine a_iconst C dX12_carriesOut_14 (v := 2) (by decide) ?_
  refine a_iadd C dX12_carriesOut_15 ?_
  refine a_ialdN C (k := 182) x_k182 (i := k9 + 2) (x_add2 (a := k9) (b := 2) rfl rfl) (by omega) (by first | decide | omega) dX12_carriesOut_16 ?_
  refine a_top (y := b) hb ?_
  refine a_istore_n C dX12_carriesOut_17 (by decide) (lst2 := [(3, .int b), (2, .int a), (0, .ref (x_b G + 175)), (1, .int (nI k9))]) rfl ?_
  refine a_aload_n C dX12_carriesOut_18 2 rfl ?_
  refine a_getR C (k := 175) iX12 x_k175 rfl (j := 15) rfl (by decide) (by decide +kernel) dX12_carriesOut_19 ?_
  refine a_iload_n C dX12_carriesOut_22 3 rfl ?_
  refine a_ialdN C (k := 182) x_k182 (i := k9) rfl (by omega) (by first | decide | omega) dX12_carriesOut_23 ?_
  refine a_top (y := (nI 108)) hv ?_
  refine a_tableIn C dX12_carriesOut_24 (by decide +kernel) (by decide +kernel) (off := 104) (by decide +kernel) (tgt := 128) (by decide) ?_
  refine a_aload_n C dX12_carriesOut_128 2 rfl ?_
  refine a_iload_n C dX12_carriesOut_129 1 rfl ?_
  refine a_iload_n C dX12_carriesOut_130 0 rfl ?_
  refine a_callV C (k := 175) (As := [.int a, .int b]) (rest := []) (hop) (cwV 2 C.1.2.2.2.2 gX12_carriesOut_X12_adds rfl rfl rfl (by decide +kernel) ⟨Nat.le_of_ble_eq_true rfl, Nat.le_of_ble_eq_true rfl⟩) x_k175 (q := (RX12, TX12, 16)) rfl rfl rfl rfl (Nat.le_of_ble_eq_true rfl) dX12_carriesOut_131 ⟨Nat.le_of_ble_eq_true rfl, Nat.le_of_ble_eq_true rfl⟩ ?_
  exact a_iret C hlocks hr dX12_carriesOut_134 rfl rfl

set_option maxHeartbeats 1000000 in
set_option maxRecDepth 100000 in
theorem c_M_carriesOut_1 (l : Launch) (G : xG) (d : xd) (k9 : Nat) (hk9 : k9 < 177) (hv : d 182 k9 = nI 114) (a b : Int32) (ha : d 182 (k9 + 1) = a) (hb : d 182 (k9 + 2) = b) (r9 : Int32) (d9 : xd) (hop : x_M G l yX12_removes wsX12_removes 3 0 0 [.ref (x_b G + 175), .int a] d (some (.int r9)) d9) : x_M G l yX12_carriesOut wsX12_carriesOut 6 0 0 [.ref (x_b G + 175), .int (nI k9)] d (some (.int r9)) d9 := by
  have iX12 : ∀ w ∈ u_ws RX12 TX12 16, w ∈ wsX12_carriesOut := by decide +kernel
  refine x_start (cc := cX12_carriesOut) (maxL := 4) (ret := (some .int)) (own := RX12) (by decide) rfl rfl (Nat.le_of_ble_eq_true rfl) (lst := [(0, .ref (x_b G + 175)), (1, .int (nI k9))]) rfl ?_
  intro p e s m args below meth c C hr hlocks
  refine a_aload_n C dX12_carriesOut_0 0 rfl ?_
  refine a_getR C (k := 175) iX12 x_k175 rfl (j := 15) rfl (by decide) (by decide +kernel) dX12_carriesOut_1 ?_
  refine a_iload_n C dX12_carriesOut_4 1 rfl ?_
  refine a_iconst C dX12_carriesOut_5 (v := 1) (by decide) ?_
  refine a_iadd C dX12_carriesOut_6 ?_
  refine a_ialdN C (k := 182) x_k182 (i := k9 + 1) (x_add2 (a := k9) (b := 1) rfl rfl) (by omega) (by first | decide | omega) dX12_carriesOut_7 ?_
  refine a_top (y := a) ha ?_
  refine a_istore_n C dX12_carriesOut_8 (by decide) (lst2 := [(2, .int a), (0, .ref (x_b G + 175)), (1, .int (nI k9))]) rfl ?_
  refine a_aload_n C dX12_carriesOut_9 1 rfl ?_
  refine a_getR C (k := 175) iX12 x_k175 rfl (j := 15) rfl (by decide) (by decide +kernel) dX12_carriesOut_10 ?_
  refine a_iload_n C dX12_carriesOut_13 2 rfl ?_
  refine a_iconst C dX12_carriesOut_14 (v := 2) (by decide) ?_
  refine a_iadd C dX12_carriesOut_15 ?_
  refine a_ialdN C (k := 182) x_k182 (i := k9 + 2) (x_add2 (a := k9) (b := 2) rfl rfl) (by omega) (by first | decide | omega) dX12_carriesOut_16 ?_
  refine a_top (y := b) hb ?_
  refine a_istore_n C dX12_carriesOut_17 (by decide) (lst2 := [(3, .int b), (2, .int a), (0, .ref (x_b G + 175)), (1, .int (nI k9))]) rfl ?_
  refine a_aload_n C dX12_carriesOut_18 2 rfl ?_
  refine a_getR C (k := 175) iX12 x_k175 rfl (j := 15) rfl (by decide) (by decide +kernel) dX12_carriesOut_19 ?_
  refine a_iload_n C dX12_carriesOut_22 3 rfl ?_
  refine a_ialdN C (k := 182) x_k182 (i := k9) rfl (by omega) (by first | decide | omega) dX12_carriesOut_23 ?_
  refine a_top (y := (nI 114)) hv ?_
  refine a_tableIn C dX12_carriesOut_24 (by decide +kernel) (by decide +kernel) (off := 111) (by decide +kernel) (tgt := 135) (by decide) ?_
  refine a_aload_n C dX12_carriesOut_135 2 rfl ?_
  refine a_iload_n C dX12_carriesOut_136 1 rfl ?_
  refine a_callV C (k := 175) (As := [.int a]) (rest := []) (hop) (cwV 1 C.1.2.2.2.2 gX12_carriesOut_X12_removes rfl rfl rfl (by decide +kernel) ⟨Nat.le_of_ble_eq_true rfl, Nat.le_of_ble_eq_true rfl⟩) x_k175 (q := (RX12, TX12, 16)) rfl rfl rfl rfl (Nat.le_of_ble_eq_true rfl) dX12_carriesOut_137 ⟨Nat.le_of_ble_eq_true rfl, Nat.le_of_ble_eq_true rfl⟩ ?_
  exact a_iret C hlocks hr dX12_carriesOut_140 rfl rfl

set_option maxHeartbeats 1000000 in
set_option maxRecDepth 100000 in
theorem c_M_carriesOut_2 (l : Launch) (G : xG) (d : xd) (k9 : Nat) (hk9 : k9 < 177) (hv : d 182 k9 = nI 105) (a b : Int32) (ha : d 182 (k9 + 1) = a) (hb : d 182 (k9 + 2) = b) (r9 : Int32) (d9 : xd) (hop : x_M G l yX12_delivers wsX12_delivers 5 0 0 [.ref (x_b G + 175), .int a] d (some (.int r9)) d9) : x_M G l yX12_carriesOut wsX12_carriesOut 6 0 0 [.ref (x_b G + 175), .int (nI k9)] d (some (.int r9)) d9 := by
  have iX12 : ∀ w ∈ u_ws RX12 TX12 16, w ∈ wsX12_carriesOut := by decide +kernel
  refine x_start (cc := cX12_carriesOut) (maxL := 4) (ret := (some .int)) (own := RX12) (by decide) rfl rfl (Nat.le_of_ble_eq_true rfl) (lst := [(0, .ref (x_b G + 175)), (1, .int (nI k9))]) rfl ?_
  intro p e s m args below meth c C hr hlocks
  refine a_aload_n C dX12_carriesOut_0 0 rfl ?_
  refine a_getR C (k := 175) iX12 x_k175 rfl (j := 15) rfl (by decide) (by decide +kernel) dX12_carriesOut_1 ?_
  refine a_iload_n C dX12_carriesOut_4 1 rfl ?_
  refine a_iconst C dX12_carriesOut_5 (v := 1) (by decide) ?_
  refine a_iadd C dX12_carriesOut_6 ?_
  refine a_ialdN C (k := 182) x_k182 (i := k9 + 1) (x_add2 (a := k9) (b := 1) rfl rfl) (by omega) (by first | decide | omega) dX12_carriesOut_7 ?_
  refine a_top (y := a) ha ?_
  refine a_istore_n C dX12_carriesOut_8 (by decide) (lst2 := [(2, .int a), (0, .ref (x_b G + 175)), (1, .int (nI k9))]) rfl ?_
  refine a_aload_n C dX12_carriesOut_9 1 rfl ?_
  refine a_getR C (k := 175) iX12 x_k175 rfl (j := 15) rfl (by decide) (by decide +kernel) dX12_carriesOut_10 ?_
  refine a_iload_n C dX12_carriesOut_13 2 rfl ?_
  refine a_iconst C dX12_carriesOut_14 (v := 2) (by decide) ?_
  refine a_iadd C dX12_carriesOut_15 ?_
  refine a_ialdN C (k := 182) x_k182 (i := k9 + 2) (x_add2 (a := k9) (b := 2) rfl rfl) (by omega) (by first | decide | omega) dX12_carriesOut_16 ?_
  refine a_top (y := b) hb ?_
  refine a_istore_n C dX12_carriesOut_17 (by decide) (lst2 := [(3, .int b), (2, .int a), (0, .ref (x_b G + 175)), (1, .int (nI k9))]) rfl ?_
  refine a_aload_n C dX12_carriesOut_18 2 rfl ?_
  refine a_getR C (k := 175) iX12 x_k175 rfl (j := 15) rfl (by decide) (by decide +kernel) dX12_carriesOut_19 ?_
  refine a_iload_n C dX12_carriesOut_22 3 rfl ?_
  refine a_ialdN C (k := 182) x_k182 (i := k9) rfl (by omega) (by first | decide | omega) dX12_carriesOut_23 ?_
  refine a_top (y := (nI 105)) hv ?_
  refine a_tableIn C dX12_carriesOut_24 (by decide +kernel) (by decide +kernel) (off := 117) (by decide +kernel) (tgt := 141) (by decide) ?_
  refine a_aload_n C dX12_carriesOut_141 2 rfl ?_
  refine a_iload_n C dX12_carriesOut_142 1 rfl ?_
  refine a_callV C (k := 175) (As := [.int a]) (rest := []) (hop) (cwV 1 C.1.2.2.2.2 gX12_carriesOut_X12_delivers rfl rfl rfl (by decide +kernel) ⟨Nat.le_of_ble_eq_true rfl, Nat.le_of_ble_eq_true rfl⟩) x_k175 (q := (RX12, TX12, 16)) rfl rfl rfl rfl (Nat.le_of_ble_eq_true rfl) dX12_carriesOut_143 ⟨Nat.le_of_ble_eq_true rfl, Nat.le_of_ble_eq_true rfl⟩ ?_
  exact a_iret C hlocks hr dX12_carriesOut_146 rfl rfl

set_option maxHeartbeats 1000000 in
set_option maxRecDepth 100000 in
theorem c_M_carriesOut_3 (l : Launch) (G : xG) (d : xd) (k9 : Nat) (hk9 : k9 < 177) (hv : d 182 k9 = nI 119) (a b : Int32) (ha : d 182 (k9 + 1) = a) (hb : d 182 (k9 + 2) = b) (r9 : Int32) (d9 : xd) (hop : x_M G l yX12_donates wsX12_donates 3 0 0 [.ref (x_b G + 175), .int a] d (some (.int r9)) d9) : x_M G l yX12_carriesOut wsX12_carriesOut 6 0 0 [.ref (x_b G + 175), .int (nI k9)] d (some (.int r9)) d9 := by
  have iX12 : ∀ w ∈ u_ws RX12 TX12 16, w ∈ wsX12_carriesOut := by decide +kernel
  refine x_start (cc := cX12_carriesOut) (maxL := 4) (ret := (some .int)) (own := RX12) (by decide) rfl rfl (Nat.le_of_ble_eq_true rfl) (lst := [(0, .ref (x_b G + 175)), (1, .int (nI k9))]) rfl ?_
  intro p e s m args below meth c C hr hlocks
  refine a_aload_n C dX12_carriesOut_0 0 rfl ?_
  refine a_getR C (k := 175) iX12 x_k175 rfl (j := 15) rfl (by decide) (by decide +kernel) dX12_carriesOut_1 ?_
  refine a_iload_n C dX12_carriesOut_4 1 rfl ?_
  refine a_iconst C dX12_carriesOut_5 (v := 1) (by decide) ?_
  refine a_iadd C dX12_carriesOut_6 ?_
  refine a_ialdN C (k := 182) x_k182 (i := k9 + 1) (x_add2 (a := k9) (b := 1) rfl rfl) (by omega) (by first | decide | omega) dX12_carriesOut_7 ?_
  refine a_top (y := a) ha ?_
  refine a_istore_n C dX12_carriesOut_8 (by decide) (lst2 := [(2, .int a), (0, .ref (x_b G + 175)), (1, .int (nI k9))]) rfl ?_
  refine a_aload_n C dX12_carriesOut_9 1 rfl ?_
  refine a_getR C (k := 175) iX12 x_k175 rfl (j := 15) rfl (by decide) (by decide +kernel) dX12_carriesOut_10 ?_
  refine a_iload_n C dX12_carriesOut_13 2 rfl ?_
  refine a_iconst C dX12_carriesOut_14 (v := 2) (by decide) ?_
  refine a_iadd C dX12_carriesOut_15 ?_
  refine a_ialdN C (k := 182) x_k182 (i := k9 + 2) (x_add2 (a := k9) (b := 2) rfl rfl) (by omega) (by first | decide | omega) dX12_carriesOut_16 ?_
  refine a_top (y := b) hb ?_
  refine a_istore_n C dX12_carriesOut_17 (by decide) (lst2 := [(3, .int b), (2, .int a), (0, .ref (x_b G + 175)), (1, .int (nI k9))]) rfl ?_
  refine a_aload_n C dX12_carriesOut_18 2 rfl ?_
  refine a_getR C (k := 175) iX12 x_k175 rfl (j := 15) rfl (by decide) (by decide +kernel) dX12_carriesOut_19 ?_
  refine a_iload_n C dX12_carriesOut_22 3 rfl ?_
  refine a_ialdN C (k := 182) x_k182 (i := k9) rfl (by omega) (by first | decide | omega) dX12_carriesOut_23 ?_
  refine a_top (y := (nI 119)) hv ?_
  refine a_tableIn C dX12_carriesOut_24 (by decide +kernel) (by decide +kernel) (off := 123) (by decide +kernel) (tgt := 147) (by decide) ?_
  refine a_aload_n C dX12_carriesOut_147 2 rfl ?_
  refine a_iload_n C dX12_carriesOut_148 1 rfl ?_
  refine a_callV C (k := 175) (As := [.int a]) (rest := []) (hop) (cwV 1 C.1.2.2.2.2 gX12_carriesOut_X12_donates rfl rfl rfl (by decide +kernel) ⟨Nat.le_of_ble_eq_true rfl, Nat.le_of_ble_eq_true rfl⟩) x_k175 (q := (RX12, TX12, 16)) rfl rfl rfl rfl (Nat.le_of_ble_eq_true rfl) dX12_carriesOut_149 ⟨Nat.le_of_ble_eq_true rfl, Nat.le_of_ble_eq_true rfl⟩ ?_
  exact a_iret C hlocks hr dX12_carriesOut_152 rfl rfl

set_option maxHeartbeats 1000000 in
set_option maxRecDepth 100000 in
theorem c_M_carriesOut_4 (l : Launch) (G : xG) (d : xd) (k9 : Nat) (hk9 : k9 < 177) (hv : d 182 k9 = nI 103) (a b : Int32) (ha : d 182 (k9 + 1) = a) (hb : d 182 (k9 + 2) = b) (r9 : Int32) (d9 : xd) (hop : x_M G l yX12_movesWick wsX12_movesWick 3 0 0 [.ref (x_b G + 175), .int a, .int b, .int 1] d (some (.int r9)) d9) : x_M G l yX12_carriesOut wsX12_carriesOut 6 0 0 [.ref (x_b G + 175), .int (nI k9)] d (some (.int r9)) d9 := by
  have iX12 : ∀ w ∈ u_ws RX12 TX12 16, w ∈ wsX12_carriesOut := by decide +kernel
  refine x_start (cc := cX12_carriesOut) (maxL := 4) (ret := (some .int)) (own := RX12) (by decide) rfl rfl (Nat.le_of_ble_eq_true rfl) (lst := [(0, .ref (x_b G + 175)), (1, .int (nI k9))]) rfl ?_
  intro p e s m args below meth c C hr hlocks
  refine a_aload_n C dX12_carriesOut_0 0 rfl ?_
  refine a_getR C (k := 175) iX12 x_k175 rfl (j := 15) rfl (by decide) (by decide +kernel) dX12_carriesOut_1 ?_
  refine a_iload_n C dX12_carriesOut_4 1 rfl ?_
  refine a_iconst C dX12_carriesOut_5 (v := 1) (by decide) ?_
  refine a_iadd C dX12_carriesOut_6 ?_
  refine a_ialdN C (k := 182) x_k182 (i := k9 + 1) (x_add2 (a := k9) (b := 1) rfl rfl) (by omega) (by first | decide | omega) dX12_carriesOut_7 ?_
  refine a_top (y := a) ha ?_
  refine a_istore_n C dX12_carriesOut_8 (by decide) (lst2 := [(2, .int a), (0, .ref (x_b G + 175)), (1, .int (nI k9))]) rfl ?_
  refine a_aload_n C dX12_carriesOut_9 1 rfl ?_
  refine a_getR C (k := 175) iX12 x_k175 rfl (j := 15) rfl (by decide) (by decide +kernel) dX12_carriesOut_10 ?_
  refine a_iload_n C dX12_carriesOut_13 2 rfl ?_
  refine a_iconst C dX12_carriesOut_14 (v := 2) (by decide) ?_
  refine a_iadd C dX12_carriesOut_15 ?_
  refine a_ialdN C (k := 182) x_k182 (i := k9 + 2) (x_add2 (a := k9) (b := 2) rfl rfl) (by omega) (by first | decide | omega) dX12_carriesOut_16 ?_
  refine a_top (y := b) hb ?_
  refine a_istore_n C dX12_carriesOut_17 (by decide) (lst2 := [(3, .int b), (2, .int a), (0, .ref (x_b G + 175)), (1, .int (nI k9))]) rfl ?_
  refine a_aload_n C dX12_carriesOut_18 2 rfl ?_
  refine a_getR C (k := 175) iX12 x_k175 rfl (j := 15) rfl (by decide) (by decide +kernel) dX12_carriesOut_19 ?_
  refine a_iload_n C dX12_carriesOut_22 3 rfl ?_
  refine a_ialdN C (k := 182) x_k182 (i := k9) rfl (by omega) (by first | decide | omega) dX12_carriesOut_23 ?_
  refine a_top (y := (nI 103)) hv ?_
  refine a_tableIn C dX12_carriesOut_24 (by decide +kernel) (by decide +kernel) (off := 129) (by decide +kernel) (tgt := 153) (by decide) ?_
  refine a_aload_n C dX12_carriesOut_153 2 rfl ?_
  refine a_iload_n C dX12_carriesOut_154 1 rfl ?_
  refine a_iload_n C dX12_carriesOut_155 0 rfl ?_
  refine a_iconst C dX12_carriesOut_156 (v := 1) (by decide) ?_
  refine a_callV C (k := 175) (As := [.int a, .int b, .int 1]) (rest := []) (hop) (cwV 3 C.1.2.2.2.2 gX12_carriesOut_X12_movesWick rfl rfl rfl (by decide +kernel) ⟨Nat.le_of_ble_eq_true rfl, Nat.le_of_ble_eq_true rfl⟩) x_k175 (q := (RX12, TX12, 16)) rfl rfl rfl rfl (Nat.le_of_ble_eq_true rfl) dX12_carriesOut_157 ⟨Nat.le_of_ble_eq_true rfl, Nat.le_of_ble_eq_true rfl⟩ ?_
  exact a_iret C hlocks hr dX12_carriesOut_160 rfl rfl

set_option maxHeartbeats 1000000 in
set_option maxRecDepth 100000 in
theorem c_M_carriesOut_5 (l : Launch) (G : xG) (d : xd) (k9 : Nat) (hk9 : k9 < 177) (hv : d 182 k9 = nI 98) (a b : Int32) (ha : d 182 (k9 + 1) = a) (hb : d 182 (k9 + 2) = b) (r9 : Int32) (d9 : xd) (hop : x_M G l yX12_sets wsX12_sets 3 0 0 [.ref (x_b G + 175), .int 22, .int a, .int b, .int 5] d (some (.int r9)) d9) : x_M G l yX12_carriesOut wsX12_carriesOut 6 0 0 [.ref (x_b G + 175), .int (nI k9)] d (some (.int r9)) d9 := by
  have iX12 : ∀ w ∈ u_ws RX12 TX12 16, w ∈ wsX12_carriesOut := by decide +kernel
  refine x_start (cc := cX12_carriesOut) (maxL := 4) (ret := (some .int)) (own := RX12) (by decide) rfl rfl (Nat.le_of_ble_eq_true rfl) (lst := [(0, .ref (x_b G + 175)), (1, .int (nI k9))]) rfl ?_
  intro p e s m args below meth c C hr hlocks
  refine a_aload_n C dX12_carriesOut_0 0 rfl ?_
  refine a_getR C (k := 175) iX12 x_k175 rfl (j := 15) rfl (by decide) (by decide +kernel) dX12_carriesOut_1 ?_
  refine a_iload_n C dX12_carriesOut_4 1 rfl ?_
  refine a_iconst C dX12_carriesOut_5 (v := 1) (by decide) ?_
  refine a_iadd C dX12_carriesOut_6 ?_
  refine a_ialdN C (k := 182) x_k182 (i := k9 + 1) (x_add2 (a := k9) (b := 1) rfl rfl) (by omega) (by first | decide | omega) dX12_carriesOut_7 ?_
  refine a_top (y := a) ha ?_
  refine a_istore_n C dX12_carriesOut_8 (by decide) (lst2 := [(2, .int a), (0, .ref (x_b G + 175)), (1, .int (nI k9))]) rfl ?_
  refine a_aload_n C dX12_carriesOut_9 1 rfl ?_
  refine a_getR C (k := 175) iX12 x_k175 rfl (j := 15) rfl (by decide) (by decide +kernel) dX12_carriesOut_10 ?_
  refine a_iload_n C dX12_carriesOut_13 2 rfl ?_
  refine a_iconst C dX12_carriesOut_14 (v := 2) (by decide) ?_
  refine a_iadd C dX12_carriesOut_15 ?_
  refine a_ialdN C (k := 182) x_k182 (i := k9 + 2) (x_add2 (a := k9) (b := 2) rfl rfl) (by omega) (by first | decide | omega) dX12_carriesOut_16 ?_
  refine a_top (y := b) hb ?_
  refine a_istore_n C dX12_carriesOut_17 (by decide) (lst2 := [(3, .int b), (2, .int a), (0, .ref (x_b G + 175)), (1, .int (nI k9))]) rfl ?_
  refine a_aload_n C dX12_carriesOut_18 2 rfl ?_
  refine a_getR C (k := 175) iX12 x_k175 rfl (j := 15) rfl (by decide) (by decide +kernel) dX12_carriesOut_19 ?_
  refine a_iload_n C dX12_carriesOut_22 3 rfl ?_
  refine a_ialdN C (k := 182) x_k182 (i := k9) rfl (by omega) (by first | decide | omega) dX12_carriesOut_23 ?_
  refine a_top (y := (nI 98)) hv ?_
  refine a_tableIn C dX12_carriesOut_24 (by decide +kernel) (by decide +kernel) (off := 137) (by decide +kernel) (tgt := 161) (by decide) ?_
  refine a_aload_n C dX12_carriesOut_161 2 rfl ?_
  refine a_bipush C dX12_carriesOut_162 (v := 22) (by decide) ?_
  refine a_iload_n C dX12_carriesOut_164 1 rfl ?_
  refine a_iload_n C dX12_carriesOut_165 0 rfl ?_
  refine a_iconst C dX12_carriesOut_166 (v := 5) (by decide) ?_
  refine a_callV C (k := 175) (As := [.int 22, .int a, .int b, .int 5]) (rest := []) (hop) (cwV 4 C.1.2.2.2.2 gX12_carriesOut_X12_sets rfl rfl rfl (by decide +kernel) ⟨Nat.le_of_ble_eq_true rfl, Nat.le_of_ble_eq_true rfl⟩) x_k175 (q := (RX12, TX12, 16)) rfl rfl rfl rfl (Nat.le_of_ble_eq_true rfl) dX12_carriesOut_167 ⟨Nat.le_of_ble_eq_true rfl, Nat.le_of_ble_eq_true rfl⟩ ?_
  exact a_iret C hlocks hr dX12_carriesOut_170 rfl rfl

set_option maxHeartbeats 1000000 in
set_option maxRecDepth 100000 in
theorem c_M_carriesOut_6 (l : Launch) (G : xG) (d : xd) (k9 : Nat) (hk9 : k9 < 177) (hv : d 182 k9 = nI 111) (a b : Int32) (ha : d 182 (k9 + 1) = a) (hb : d 182 (k9 + 2) = b) (r9 : Int32) (d9 : xd) (hop : x_M G l yX12_switches wsX12_switches 3 0 0 [.ref (x_b G + 175), .int a, .int 0] d (some (.int r9)) d9) : x_M G l yX12_carriesOut wsX12_carriesOut 6 0 0 [.ref (x_b G + 175), .int (nI k9)] d (some (.int r9)) d9 := by
  have iX12 : ∀ w ∈ u_ws RX12 TX12 16, w ∈ wsX12_carriesOut := by decide +kernel
  refine x_start (cc := cX12_carriesOut) (maxL := 4) (ret := (some .int)) (own := RX12) (by decide) rfl rfl (Nat.le_of_ble_eq_true rfl) (lst := [(0, .ref (x_b G + 175)), (1, .int (nI k9))]) rfl ?_
  intro p e s m args below meth c C hr hlocks
  refine a_aload_n C dX12_carriesOut_0 0 rfl ?_
  refine a_getR C (k := 175) iX12 x_k175 rfl (j := 15) rfl (by decide) (by decide +kernel) dX12_carriesOut_1 ?_
  refine a_iload_n C dX12_carriesOut_4 1 rfl ?_
  refine a_iconst C dX12_carriesOut_5 (v := 1) (by decide) ?_
  refine a_iadd C dX12_carriesOut_6 ?_
  refine a_ialdN C (k := 182) x_k182 (i := k9 + 1) (x_add2 (a := k9) (b := 1) rfl rfl) (by omega) (by first | decide | omega) dX12_carriesOut_7 ?_
  refine a_top (y := a) ha ?_
  refine a_istore_n C dX12_carriesOut_8 (by decide) (lst2 := [(2, .int a), (0, .ref (x_b G + 175)), (1, .int (nI k9))]) rfl ?_
  refine a_aload_n C dX12_carriesOut_9 1 rfl ?_
  refine a_getR C (k := 175) iX12 x_k175 rfl (j := 15) rfl (by decide) (by decide +kernel) dX12_carriesOut_10 ?_
  refine a_iload_n C dX12_carriesOut_13 2 rfl ?_
  refine a_iconst C dX12_carriesOut_14 (v := 2) (by decide) ?_
  refine a_iadd C dX12_carriesOut_15 ?_
  refine a_ialdN C (k := 182) x_k182 (i := k9 + 2) (x_add2 (a := k9) (b := 2) rfl rfl) (by omega) (by first | decide | omega) dX12_carriesOut_16 ?_
  refine a_top (y := b) hb ?_
  refine a_istore_n C dX12_carriesOut_17 (by decide) (lst2 := [(3, .int b), (2, .int a), (0, .ref (x_b G + 175)), (1, .int (nI k9))]) rfl ?_
  refine a_aload_n C dX12_carriesOut_18 2 rfl ?_
  refine a_getR C (k := 175) iX12 x_k175 rfl (j := 15) rfl (by decide) (by decide +kernel) dX12_carriesOut_19 ?_
  refine a_iload_n C dX12_carriesOut_22 3 rfl ?_
  refine a_ialdN C (k := 182) x_k182 (i := k9) rfl (by omega) (by first | decide | omega) dX12_carriesOut_23 ?_
  refine a_top (y := (nI 111)) hv ?_
  refine a_tableIn C dX12_carriesOut_24 (by decide +kernel) (by decide +kernel) (off := 147) (by decide +kernel) (tgt := 171) (by decide) ?_
  refine a_aload_n C dX12_carriesOut_171 2 rfl ?_
  refine a_iload_n C dX12_carriesOut_172 1 rfl ?_
  refine a_iconst C dX12_carriesOut_173 (v := 0) (by decide) ?_
  refine a_callV C (k := 175) (As := [.int a, .int 0]) (rest := []) (hop) (cwV 2 C.1.2.2.2.2 gX12_carriesOut_X12_switches rfl rfl rfl (by decide +kernel) ⟨Nat.le_of_ble_eq_true rfl, Nat.le_of_ble_eq_true rfl⟩) x_k175 (q := (RX12, TX12, 16)) rfl rfl rfl rfl (Nat.le_of_ble_eq_true rfl) dX12_carriesOut_174 ⟨Nat.le_of_ble_eq_true rfl, Nat.le_of_ble_eq_true rfl⟩ ?_
  exact a_iret C hlocks hr dX12_carriesOut_177 rfl rfl

set_option maxHeartbeats 1000000 in
set_option maxRecDepth 100000 in
theorem c_M_carriesOut_7 (l : Launch) (G : xG) (d : xd) (k9 : Nat) (hk9 : k9 < 177) (hv : d 182 k9 = nI 102) (a b : Int32) (ha : d 182 (k9 + 1) = a) (hb : d 182 (k9 + 2) = b) (r9 : Int32) (d9 : xd) (hop : x_M G l yX12_switches wsX12_switches 3 0 0 [.ref (x_b G + 175), .int a, .int 1] d (some (.int r9)) d9) : x_M G l yX12_carriesOut wsX12_carriesOut 6 0 0 [.ref (x_b G + 175), .int (nI k9)] d (some (.int r9)) d9 := by
  have iX12 : ∀ w ∈ u_ws RX12 TX12 16, w ∈ wsX12_carriesOut := by decide +kernel
  refine x_start (cc := cX12_carriesOut) (maxL := 4) (ret := (some .int)) (own := RX12) (by decide) rfl rfl (Nat.le_of_ble_eq_true rfl) (lst := [(0, .ref (x_b G + 175)), (1, .int (nI k9))]) rfl ?_
  intro p e s m args below meth c C hr hlocks
  refine a_aload_n C dX12_carriesOut_0 0 rfl ?_
  refine a_getR C (k := 175) iX12 x_k175 rfl (j := 15) rfl (by decide) (by decide +kernel) dX12_carriesOut_1 ?_
  refine a_iload_n C dX12_carriesOut_4 1 rfl ?_
  refine a_iconst C dX12_carriesOut_5 (v := 1) (by decide) ?_
  refine a_iadd C dX12_carriesOut_6 ?_
  refine a_ialdN C (k := 182) x_k182 (i := k9 + 1) (x_add2 (a := k9) (b := 1) rfl rfl) (by omega) (by first | decide | omega) dX12_carriesOut_7 ?_
  refine a_top (y := a) ha ?_
  refine a_istore_n C dX12_carriesOut_8 (by decide) (lst2 := [(2, .int a), (0, .ref (x_b G + 175)), (1, .int (nI k9))]) rfl ?_
  refine a_aload_n C dX12_carriesOut_9 1 rfl ?_
  refine a_getR C (k := 175) iX12 x_k175 rfl (j := 15) rfl (by decide) (by decide +kernel) dX12_carriesOut_10 ?_
  refine a_iload_n C dX12_carriesOut_13 2 rfl ?_
  refine a_iconst C dX12_carriesOut_14 (v := 2) (by decide) ?_
  refine a_iadd C dX12_carriesOut_15 ?_
  refine a_ialdN C (k := 182) x_k182 (i := k9 + 2) (x_add2 (a := k9) (b := 2) rfl rfl) (by omega) (by first | decide | omega) dX12_carriesOut_16 ?_
  refine a_top (y := b) hb ?_
  refine a_istore_n C dX12_carriesOut_17 (by decide) (lst2 := [(3, .int b), (2, .int a), (0, .ref (x_b G + 175)), (1, .int (nI k9))]) rfl ?_
  refine a_aload_n C dX12_carriesOut_18 2 rfl ?_
  refine a_getR C (k := 175) iX12 x_k175 rfl (j := 15) rfl (by decide) (by decide +kernel) dX12_carriesOut_19 ?_
  refine a_iload_n C dX12_carriesOut_22 3 rfl ?_
  refine a_ialdN C (k := 182) x_k182 (i := k9) rfl (by omega) (by first | decide | omega) dX12_carriesOut_23 ?_
  refine a_top (y := (nI 102)) hv ?_
  refine a_tableIn C dX12_carriesOut_24 (by decide +kernel) (by decide +kernel) (off := 154) (by decide +kernel) (tgt := 178) (by decide) ?_
  refine a_aload_n C dX12_carriesOut_178 2 rfl ?_
  refine a_iload_n C dX12_carriesOut_179 1 rfl ?_
  refine a_iconst C dX12_carriesOut_180 (v := 1) (by decide) ?_
  refine a_callV C (k := 175) (As := [.int a, .int 1]) (rest := []) (hop) (cwV 2 C.1.2.2.2.2 gX12_carriesOut_X12_switches rfl rfl rfl (by decide +kernel) ⟨Nat.le_of_ble_eq_true rfl, Nat.le_of_ble_eq_true rfl⟩) x_k175 (q := (RX12, TX12, 16)) rfl rfl rfl rfl (Nat.le_of_ble_eq_true rfl) dX12_carriesOut_181 ⟨Nat.le_of_ble_eq_true rfl, Nat.le_of_ble_eq_true rfl⟩ ?_
  exact a_iret C hlocks hr dX12_carriesOut_184 rfl rfl

set_option maxHeartbeats 1000000 in
set_option maxRecDepth 100000 in
theorem c_M_carriesOut_8 (l : Launch) (G : xG) (d : xd) (k9 : Nat) (hk9 : k9 < 177) (hv : d 182 k9 = nI 109) (a b : Int32) (ha : d 182 (k9 + 1) = a) (hb : d 182 (k9 + 2) = b) (r9 : Int32) (d9 : xd) (hop : x_M G l yX12_addsMoth wsX12_addsMoth 3 0 0 [.ref (x_b G + 175), .int a] d (some (.int r9)) d9) : x_M G l yX12_carriesOut wsX12_carriesOut 6 0 0 [.ref (x_b G + 175), .int (nI k9)] d (some (.int r9)) d9 := by
  have iX12 : ∀ w ∈ u_ws RX12 TX12 16, w ∈ wsX12_carriesOut := by decide +kernel
  refine x_start (cc := cX12_carriesOut) (maxL := 4) (ret := (some .int)) (own := RX12) (by decide) rfl rfl (Nat.le_of_ble_eq_true rfl) (lst := [(0, .ref (x_b G + 175)), (1, .int (nI k9))]) rfl ?_
  intro p e s m args below meth c C hr hlocks
  refine a_aload_n C dX12_carriesOut_0 0 rfl ?_
  refine a_getR C (k := 175) iX12 x_k175 rfl (j := 15) rfl (by decide) (by decide +kernel) dX12_carriesOut_1 ?_
  refine a_iload_n C dX12_carriesOut_4 1 rfl ?_
  refine a_iconst C dX12_carriesOut_5 (v := 1) (by decide) ?_
  refine a_iadd C dX12_carriesOut_6 ?_
  refine a_ialdN C (k := 182) x_k182 (i := k9 + 1) (x_add2 (a := k9) (b := 1) rfl rfl) (by omega) (by first | decide | omega) dX12_carriesOut_7 ?_
  refine a_top (y := a) ha ?_
  refine a_istore_n C dX12_carriesOut_8 (by decide) (lst2 := [(2, .int a), (0, .ref (x_b G + 175)), (1, .int (nI k9))]) rfl ?_
  refine a_aload_n C dX12_carriesOut_9 1 rfl ?_
  refine a_getR C (k := 175) iX12 x_k175 rfl (j := 15) rfl (by decide) (by decide +kernel) dX12_carriesOut_10 ?_
  refine a_iload_n C dX12_carriesOut_13 2 rfl ?_
  refine a_iconst C dX12_carriesOut_14 (v := 2) (by decide) ?_
  refine a_iadd C dX12_carriesOut_15 ?_
  refine a_ialdN C (k := 182) x_k182 (i := k9 + 2) (x_add2 (a := k9) (b := 2) rfl rfl) (by omega) (by first | decide | omega) dX12_carriesOut_16 ?_
  refine a_top (y := b) hb ?_
  refine a_istore_n C dX12_carriesOut_17 (by decide) (lst2 := [(3, .int b), (2, .int a), (0, .ref (x_b G + 175)), (1, .int (nI k9))]) rfl ?_
  refine a_aload_n C dX12_carriesOut_18 2 rfl ?_
  refine a_getR C (k := 175) iX12 x_k175 rfl (j := 15) rfl (by decide) (by decide +kernel) dX12_carriesOut_19 ?_
  refine a_iload_n C dX12_carriesOut_22 3 rfl ?_
  refine a_ialdN C (k := 182) x_k182 (i := k9) rfl (by omega) (by first | decide | omega) dX12_carriesOut_23 ?_
  refine a_top (y := (nI 109)) hv ?_
  refine a_tableIn C dX12_carriesOut_24 (by decide +kernel) (by decide +kernel) (off := 161) (by decide +kernel) (tgt := 185) (by decide) ?_
  refine a_aload_n C dX12_carriesOut_185 2 rfl ?_
  refine a_iload_n C dX12_carriesOut_186 1 rfl ?_
  refine a_callV C (k := 175) (As := [.int a]) (rest := []) (hop) (cwV 1 C.1.2.2.2.2 gX12_carriesOut_X12_addsMoth rfl rfl rfl (by decide +kernel) ⟨Nat.le_of_ble_eq_true rfl, Nat.le_of_ble_eq_true rfl⟩) x_k175 (q := (RX12, TX12, 16)) rfl rfl rfl rfl (Nat.le_of_ble_eq_true rfl) dX12_carriesOut_187 ⟨Nat.le_of_ble_eq_true rfl, Nat.le_of_ble_eq_true rfl⟩ ?_
  exact a_iret C hlocks hr dX12_carriesOut_190 rfl rfl

set_option maxHeartbeats 1000000 in
set_option maxRecDepth 100000 in
theorem c_M_carriesOut_9 (l : Launch) (G : xG) (d : xd) (k9 : Nat) (hk9 : k9 < 177) (hv : d 182 k9 = nI 99) (a b : Int32) (ha : d 182 (k9 + 1) = a) (hb : d 182 (k9 + 2) = b) (r9 : Int32) (d9 : xd) (hop : x_M G l yX12_proposes wsX12_proposes 4 0 0 [.ref (x_b G + 175), .int a] d (some (.int r9)) d9) : x_M G l yX12_carriesOut wsX12_carriesOut 6 0 0 [.ref (x_b G + 175), .int (nI k9)] d (some (.int r9)) d9 := by
  have iX12 : ∀ w ∈ u_ws RX12 TX12 16, w ∈ wsX12_carriesOut := by decide +kernel
  refine x_start (cc := cX12_carriesOut) (maxL := 4) (ret := (some .int)) (own := RX12) (by decide) rfl rfl (Nat.le_of_ble_eq_true rfl) (lst := [(0, .ref (x_b G + 175)), (1, .int (nI k9))]) rfl ?_
  intro p e s m args below meth c C hr hlocks
  refine a_aload_n C dX12_carriesOut_0 0 rfl ?_
  refine a_getR C (k := 175) iX12 x_k175 rfl (j := 15) rfl (by decide) (by decide +kernel) dX12_carriesOut_1 ?_
  refine a_iload_n C dX12_carriesOut_4 1 rfl ?_
  refine a_iconst C dX12_carriesOut_5 (v := 1) (by decide) ?_
  refine a_iadd C dX12_carriesOut_6 ?_
  refine a_ialdN C (k := 182) x_k182 (i := k9 + 1) (x_add2 (a := k9) (b := 1) rfl rfl) (by omega) (by first | decide | omega) dX12_carriesOut_7 ?_
  refine a_top (y := a) ha ?_
  refine a_istore_n C dX12_carriesOut_8 (by decide) (lst2 := [(2, .int a), (0, .ref (x_b G + 175)), (1, .int (nI k9))]) rfl ?_
  refine a_aload_n C dX12_carriesOut_9 1 rfl ?_
  refine a_getR C (k := 175) iX12 x_k175 rfl (j := 15) rfl (by decide) (by decide +kernel) dX12_carriesOut_10 ?_
  refine a_iload_n C dX12_carriesOut_13 2 rfl ?_
  refine a_iconst C dX12_carriesOut_14 (v := 2) (by decide) ?_
  refine a_iadd C dX12_carriesOut_15 ?_
  refine a_ialdN C (k := 182) x_k182 (i := k9 + 2) (x_add2 (a := k9) (b := 2) rfl rfl) (by omega) (by first | decide | omega) dX12_carriesOut_16 ?_
  refine a_top (y := b) hb ?_
  refine a_istore_n C dX12_carriesOut_17 (by decide) (lst2 := [(3, .int b), (2, .int a), (0, .ref (x_b G + 175)), (1, .int (nI k9))]) rfl ?_
  refine a_aload_n C dX12_carriesOut_18 2 rfl ?_
  refine a_getR C (k := 175) iX12 x_k175 rfl (j := 15) rfl (by decide) (by decide +kernel) dX12_carriesOut_19 ?_
  refine a_iload_n C dX12_carriesOut_22 3 rfl ?_
  refine a_ialdN C (k := 182) x_k182 (i := k9) rfl (by omega) (by first | decide | omega) dX12_carriesOut_23 ?_
  refine a_top (y := (nI 99)) hv ?_
  refine a_tableIn C dX12_carriesOut_24 (by decide +kernel) (by decide +kernel) (off := 167) (by decide +kernel) (tgt := 191) (by decide) ?_
  refine a_aload_n C dX12_carriesOut_191 2 rfl ?_
  refine a_iload_n C dX12_carriesOut_192 1 rfl ?_
  refine a_callV C (k := 175) (As := [.int a]) (rest := []) (hop) (cwV 1 C.1.2.2.2.2 gX12_carriesOut_X12_proposes rfl rfl rfl (by decide +kernel) ⟨Nat.le_of_ble_eq_true rfl, Nat.le_of_ble_eq_true rfl⟩) x_k175 (q := (RX12, TX12, 16)) rfl rfl rfl rfl (Nat.le_of_ble_eq_true rfl) dX12_carriesOut_193 ⟨Nat.le_of_ble_eq_true rfl, Nat.le_of_ble_eq_true rfl⟩ ?_
  exact a_iret C hlocks hr dX12_carriesOut_196 rfl rfl

set_option maxHeartbeats 1000000 in
set_option maxRecDepth 100000 in
theorem c_M_carriesOut_10 (l : Launch) (G : xG) (d : xd) (k9 : Nat) (hk9 : k9 < 177) (hv : d 182 k9 = nI 110) (a b : Int32) (ha : d 182 (k9 + 1) = a) (hb : d 182 (k9 + 2) = b) (r9 : Int32) (d9 : xd) (hop : x_M G l yX12_passesNight wsX12_passesNight 4 0 0 [.ref (x_b G + 175)] d (some (.int r9)) d9) : x_M G l yX12_carriesOut wsX12_carriesOut 6 0 0 [.ref (x_b G + 175), .int (nI k9)] d (some (.int r9)) d9 := by
  have iX12 : ∀ w ∈ u_ws RX12 TX12 16, w ∈ wsX12_carriesOut := by decide +kernel
  refine x_start (cc := cX12_carriesOut) (maxL := 4) (ret := (some .int)) (own := RX12) (by decide) rfl rfl (Nat.le_of_ble_eq_true rfl) (lst := [(0, .ref (x_b G + 175)), (1, .int (nI k9))]) rfl ?_
  intro p e s m args below meth c C hr hlocks
  refine a_aload_n C dX12_carriesOut_0 0 rfl ?_
  refine a_getR C (k := 175) iX12 x_k175 rfl (j := 15) rfl (by decide) (by decide +kernel) dX12_carriesOut_1 ?_
  refine a_iload_n C dX12_carriesOut_4 1 rfl ?_
  refine a_iconst C dX12_carriesOut_5 (v := 1) (by decide) ?_
  refine a_iadd C dX12_carriesOut_6 ?_
  refine a_ialdN C (k := 182) x_k182 (i := k9 + 1) (x_add2 (a := k9) (b := 1) rfl rfl) (by omega) (by first | decide | omega) dX12_carriesOut_7 ?_
  refine a_top (y := a) ha ?_
  refine a_istore_n C dX12_carriesOut_8 (by decide) (lst2 := [(2, .int a), (0, .ref (x_b G + 175)), (1, .int (nI k9))]) rfl ?_
  refine a_aload_n C dX12_carriesOut_9 1 rfl ?_
  refine a_getR C (k := 175) iX12 x_k175 rfl (j := 15) rfl (by decide) (by decide +kernel) dX12_carriesOut_10 ?_
  refine a_iload_n C dX12_carriesOut_13 2 rfl ?_
  refine a_iconst C dX12_carriesOut_14 (v := 2) (by decide) ?_
  refine a_iadd C dX12_carriesOut_15 ?_
  refine a_ialdN C (k := 182) x_k182 (i := k9 + 2) (x_add2 (a := k9) (b := 2) rfl rfl) (by omega) (by first | decide | omega) dX12_carriesOut_16 ?_
  refine a_top (y := b) hb ?_
  refine a_istore_n C dX12_carriesOut_17 (by decide) (lst2 := [(3, .int b), (2, .int a), (0, .ref (x_b G + 175)), (1, .int (nI k9))]) rfl ?_
  refine a_aload_n C dX12_carriesOut_18 2 rfl ?_
  refine a_getR C (k := 175) iX12 x_k175 rfl (j := 15) rfl (by decide) (by decide +kernel) dX12_carriesOut_19 ?_
  refine a_iload_n C dX12_carriesOut_22 3 rfl ?_
  refine a_ialdN C (k := 182) x_k182 (i := k9) rfl (by omega) (by first | decide | omega) dX12_carriesOut_23 ?_
  refine a_top (y := (nI 110)) hv ?_
  refine a_tableIn C dX12_carriesOut_24 (by decide +kernel) (by decide +kernel) (off := 173) (by decide +kernel) (tgt := 197) (by decide) ?_
  refine a_aload_n C dX12_carriesOut_197 2 rfl ?_
  refine a_callV C (k := 175) (As := []) (rest := []) (hop) (cwV 0 C.1.2.2.2.2 gX12_carriesOut_X12_passesNight rfl rfl rfl (by decide +kernel) ⟨Nat.le_of_ble_eq_true rfl, Nat.le_of_ble_eq_true rfl⟩) x_k175 (q := (RX12, TX12, 16)) rfl rfl rfl rfl (Nat.le_of_ble_eq_true rfl) dX12_carriesOut_198 ⟨Nat.le_of_ble_eq_true rfl, Nat.le_of_ble_eq_true rfl⟩ ?_
  exact a_iret C hlocks hr dX12_carriesOut_201 rfl rfl

set_option maxHeartbeats 1000000 in
set_option maxRecDepth 100000 in
theorem c_M_carriesOut_11 (l : Launch) (G : xG) (d : xd) (k9 : Nat) (hk9 : k9 < 177) (hv : d 182 k9 = nI 112) (a b : Int32) (ha : d 182 (k9 + 1) = a) (hb : d 182 (k9 + 2) = b) (r9 : Int32) (d9 : xd) (hop : x_M G l yX12_pays wsX12_pays 5 0 0 [.ref (x_b G + 175)] d (some (.int r9)) d9) : x_M G l yX12_carriesOut wsX12_carriesOut 6 0 0 [.ref (x_b G + 175), .int (nI k9)] d (some (.int r9)) d9 := by
  have iX12 : ∀ w ∈ u_ws RX12 TX12 16, w ∈ wsX12_carriesOut := by decide +kernel
  refine x_start (cc := cX12_carriesOut) (maxL := 4) (ret := (some .int)) (own := RX12) (by decide) rfl rfl (Nat.le_of_ble_eq_true rfl) (lst := [(0, .ref (x_b G + 175)), (1, .int (nI k9))]) rfl ?_
  intro p e s m args below meth c C hr hlocks
  refine a_aload_n C dX12_carriesOut_0 0 rfl ?_
  refine a_getR C (k := 175) iX12 x_k175 rfl (j := 15) rfl (by decide) (by decide +kernel) dX12_carriesOut_1 ?_
  refine a_iload_n C dX12_carriesOut_4 1 rfl ?_
  refine a_iconst C dX12_carriesOut_5 (v := 1) (by decide) ?_
  refine a_iadd C dX12_carriesOut_6 ?_
  refine a_ialdN C (k := 182) x_k182 (i := k9 + 1) (x_add2 (a := k9) (b := 1) rfl rfl) (by omega) (by first | decide | omega) dX12_carriesOut_7 ?_
  refine a_top (y := a) ha ?_
  refine a_istore_n C dX12_carriesOut_8 (by decide) (lst2 := [(2, .int a), (0, .ref (x_b G + 175)), (1, .int (nI k9))]) rfl ?_
  refine a_aload_n C dX12_carriesOut_9 1 rfl ?_
  refine a_getR C (k := 175) iX12 x_k175 rfl (j := 15) rfl (by decide) (by decide +kernel) dX12_carriesOut_10 ?_
  refine a_iload_n C dX12_carriesOut_13 2 rfl ?_
  refine a_iconst C dX12_carriesOut_14 (v := 2) (by decide) ?_
  refine a_iadd C dX12_carriesOut_15 ?_
  refine a_ialdN C (k := 182) x_k182 (i := k9 + 2) (x_add2 (a := k9) (b := 2) rfl rfl) (by omega) (by first | decide | omega) dX12_carriesOut_16 ?_
  refine a_top (y := b) hb ?_
  refine a_istore_n C dX12_carriesOut_17 (by decide) (lst2 := [(3, .int b), (2, .int a), (0, .ref (x_b G + 175)), (1, .int (nI k9))]) rfl ?_
  refine a_aload_n C dX12_carriesOut_18 2 rfl ?_
  refine a_getR C (k := 175) iX12 x_k175 rfl (j := 15) rfl (by decide) (by decide +kernel) dX12_carriesOut_19 ?_
  refine a_iload_n C dX12_carriesOut_22 3 rfl ?_
  refine a_ialdN C (k := 182) x_k182 (i := k9) rfl (by omega) (by first | decide | omega) dX12_carriesOut_23 ?_
  refine a_top (y := (nI 112)) hv ?_
  refine a_tableIn C dX12_carriesOut_24 (by decide +kernel) (by decide +kernel) (off := 178) (by decide +kernel) (tgt := 202) (by decide) ?_
  refine a_aload_n C dX12_carriesOut_202 2 rfl ?_
  refine a_callV C (k := 175) (As := []) (rest := []) (hop) (cwV 0 C.1.2.2.2.2 gX12_carriesOut_X12_pays rfl rfl rfl (by decide +kernel) ⟨Nat.le_of_ble_eq_true rfl, Nat.le_of_ble_eq_true rfl⟩) x_k175 (q := (RX12, TX12, 16)) rfl rfl rfl rfl (Nat.le_of_ble_eq_true rfl) dX12_carriesOut_203 ⟨Nat.le_of_ble_eq_true rfl, Nat.le_of_ble_eq_true rfl⟩ ?_
  exact a_iret C hlocks hr dX12_carriesOut_206 rfl rfl

set_option maxHeartbeats 1000000 in
set_option maxRecDepth 100000 in
theorem c_M_carriesOut_12 (l : Launch) (G : xG) (d : xd) (k9 : Nat) (hk9 : k9 < 177) (hv : d 182 k9 = nI 117) (a b : Int32) (ha : d 182 (k9 + 1) = a) (hb : d 182 (k9 + 2) = b) (r9 : Int32) (d9 : xd) (hop : x_M G l yX12_buys wsX12_buys 3 0 0 [.ref (x_b G + 175), .int a, .int b] d (some (.int r9)) d9) : x_M G l yX12_carriesOut wsX12_carriesOut 6 0 0 [.ref (x_b G + 175), .int (nI k9)] d (some (.int r9)) d9 := by
  have iX12 : ∀ w ∈ u_ws RX12 TX12 16, w ∈ wsX12_carriesOut := by decide +kernel
  refine x_start (cc := cX12_carriesOut) (maxL := 4) (ret := (some .int)) (own := RX12) (by decide) rfl rfl (Nat.le_of_ble_eq_true rfl) (lst := [(0, .ref (x_b G + 175)), (1, .int (nI k9))]) rfl ?_
  intro p e s m args below meth c C hr hlocks
  refine a_aload_n C dX12_carriesOut_0 0 rfl ?_
  refine a_getR C (k := 175) iX12 x_k175 rfl (j := 15) rfl (by decide) (by decide +kernel) dX12_carriesOut_1 ?_
  refine a_iload_n C dX12_carriesOut_4 1 rfl ?_
  refine a_iconst C dX12_carriesOut_5 (v := 1) (by decide) ?_
  refine a_iadd C dX12_carriesOut_6 ?_
  refine a_ialdN C (k := 182) x_k182 (i := k9 + 1) (x_add2 (a := k9) (b := 1) rfl rfl) (by omega) (by first | decide | omega) dX12_carriesOut_7 ?_
  refine a_top (y := a) ha ?_
  refine a_istore_n C dX12_carriesOut_8 (by decide) (lst2 := [(2, .int a), (0, .ref (x_b G + 175)), (1, .int (nI k9))]) rfl ?_
  refine a_aload_n C dX12_carriesOut_9 1 rfl ?_
  refine a_getR C (k := 175) iX12 x_k175 rfl (j := 15) rfl (by decide) (by decide +kernel) dX12_carriesOut_10 ?_
  refine a_iload_n C dX12_carriesOut_13 2 rfl ?_
  refine a_iconst C dX12_carriesOut_14 (v := 2) (by decide) ?_
  refine a_iadd C dX12_carriesOut_15 ?_
  refine a_ialdN C (k := 182) x_k182 (i := k9 + 2) (x_add2 (a := k9) (b := 2) rfl rfl) (by omega) (by first | decide | omega) dX12_carriesOut_16 ?_
  refine a_top (y := b) hb ?_
  refine a_istore_n C dX12_carriesOut_17 (by decide) (lst2 := [(3, .int b), (2, .int a), (0, .ref (x_b G + 175)), (1, .int (nI k9))]) rfl ?_
  refine a_aload_n C dX12_carriesOut_18 2 rfl ?_
  refine a_getR C (k := 175) iX12 x_k175 rfl (j := 15) rfl (by decide) (by decide +kernel) dX12_carriesOut_19 ?_
  refine a_iload_n C dX12_carriesOut_22 3 rfl ?_
  refine a_ialdN C (k := 182) x_k182 (i := k9) rfl (by omega) (by first | decide | omega) dX12_carriesOut_23 ?_
  refine a_top (y := (nI 117)) hv ?_
  refine a_tableIn C dX12_carriesOut_24 (by decide +kernel) (by decide +kernel) (off := 183) (by decide +kernel) (tgt := 207) (by decide) ?_
  refine a_aload_n C dX12_carriesOut_207 2 rfl ?_
  refine a_iload_n C dX12_carriesOut_208 1 rfl ?_
  refine a_iload_n C dX12_carriesOut_209 0 rfl ?_
  refine a_callV C (k := 175) (As := [.int a, .int b]) (rest := []) (hop) (cwV 2 C.1.2.2.2.2 gX12_carriesOut_X12_buys rfl rfl rfl (by decide +kernel) ⟨Nat.le_of_ble_eq_true rfl, Nat.le_of_ble_eq_true rfl⟩) x_k175 (q := (RX12, TX12, 16)) rfl rfl rfl rfl (Nat.le_of_ble_eq_true rfl) dX12_carriesOut_210 ⟨Nat.le_of_ble_eq_true rfl, Nat.le_of_ble_eq_true rfl⟩ ?_
  exact a_iret C hlocks hr dX12_carriesOut_213 rfl rfl

