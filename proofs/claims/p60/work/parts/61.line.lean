/-! the line, as a list of signs -/
def n_dg (v : Nat) : List Nat := if v < 10 then [48 + v] else [48 + v / 10, 48 + v % 10]
theorem n_dg_len (v : Nat) : 1 ≤ (n_dg v).length ∧ (n_dg v).length ≤ 2 := by
  unfold n_dg
  split <;> simp
theorem n_dg_lt {v : Nat} (hv : v < 100) : ∀ x ∈ n_dg v, x < 128 := by
  unfold n_dg
  split <;> intro x hx <;> simp at hx <;> omega
def n_l (d : xd) (ls : List Nat) : Prop := d 173 3 = nI ls.length ∧ ∀ j, j < ls.length → d 174 j = nI (ls.getD j 0)
def m_l (d : xd) (ls : List Nat) : Prop := d 175 11 = nI ls.length ∧ ∀ j, j < ls.length → d 181 j = nI (ls.getD j 0)
theorem n_at {ls : List Nat} {a j : Nat} (h : j < ls.length) : (ls ++ [a]).getD j 0 = ls.getD j 0 := by
  simp only [List.getD_eq_getElem?_getD]
  rw [List.getElem?_append_left h]
theorem n_end {ls : List Nat} {a : Nat} : (ls ++ [a]).getD ls.length 0 = a := by
  simp [List.getD_eq_getElem?_getD]
theorem n_ac {d : xd} {ls : List Nat} {a : Nat} (h : n_l d ls) : n_l (f_ac d ls.length a) (ls ++ [a]) := by
  unfold f_ac
  refine ⟨?_, fun j hj => ?_⟩
  · rw [x_p_ne (by omega), x_p_at]
    simp
  · rw [List.length_append, List.length_singleton] at hj
    rcases Nat.lt_or_ge j ls.length with z | z
    · rw [x_p_row (by omega), x_p_ne (by omega), n_at z]
      exact h.2 j z
    · have e : j = ls.length := by omega
      subst e
      rw [x_p_at, n_end]
theorem n_ai {d : xd} {ls : List Nat} {v : Nat} (h : n_l d ls) : n_l (f_ai d ls.length v) (ls ++ n_dg v) := by
  unfold f_ai n_dg
  by_cases hv : v < 10
  · rw [if_pos hv, if_pos hv]
    refine ⟨?_, fun j hj => ?_⟩
    · rw [x_p_at]
      simp
    · rw [List.length_append, List.length_singleton] at hj
      rcases Nat.lt_or_ge j ls.length with z | z
      · rw [x_p_ne (by omega), x_p_row (by omega), n_at z]
        exact h.2 j z
      · have e : j = ls.length := by omega
        subst e
        rw [x_p_ne (by omega), x_p_at, n_end]
  · rw [if_neg hv, if_neg hv]
    refine ⟨?_, fun j hj => ?_⟩
    · rw [x_p_at]
      simp
    · have e2 : ls ++ [48 + v / 10, 48 + v % 10] = (ls ++ [48 + v / 10]) ++ [48 + v % 10] := by simp
      rw [List.length_append] at hj
      have hj : j < ls.length + 2 := hj
      have hl : (ls ++ [48 + v / 10]).length = ls.length + 1 := by simp
      rw [e2]
      rcases Nat.lt_or_ge j (ls.length + 1) with z | z
      · rw [n_at (by rw [hl]; exact z)]
        rcases Nat.lt_or_ge j ls.length with y | y
        · rw [x_p_ne (by omega), x_p_row (by omega), x_p_row (by omega), n_at y]
          exact h.2 j y
        · have e : j = ls.length := by omega
          subst e
          rw [x_p_ne (by omega), x_p_at, n_end]
      · have e : j = ls.length + 1 := by omega
        subst e
        rw [x_p_ne (by omega), x_p_row (by omega), x_p_at, ← hl, n_end]
theorem n_sl {d : xd} {k : Nat} : n_l (f_sl0 d k) [] := by
  refine ⟨?_, fun j hj => absurd hj (Nat.not_lt_zero j)⟩
  unfold f_sl0
  split
  · rw [x_p_at]; rfl
  · rw [x_p_at]; rfl
theorem f_ac_out {d : xd} {k a j : Nat} (h : j ≠ 173) (h2 : j ≠ 174) : f_ac d k a j = d j := by
  unfold f_ac
  rw [x_p_ne h2, x_p_ne h]
theorem f_ai_out {d : xd} {k a j : Nat} (h : j ≠ 173) (h2 : j ≠ 174) : f_ai d k a j = d j := by
  unfold f_ai
  split
  · rw [x_p_ne h, x_p_ne h2]
  · rw [x_p_ne h, x_p_ne h2, x_p_ne h2]
theorem f_sl0_out {d : xd} {k j : Nat} (h : j ≠ 173) : f_sl0 d k j = d j := by
  unfold f_sl0
  split
  · rw [x_p_ne h]
  · rw [x_p_ne h, x_p_ne h]
theorem f_ac_1 {d : xd} {k a : Nat} : f_ac d k a 173 1 = d 173 1 := by
  unfold f_ac
  rw [x_p_ne (by omega), x_p_row (by omega)]
theorem f_ai_1 {d : xd} {k a : Nat} : f_ai d k a 173 1 = d 173 1 := by
  unfold f_ai
  split
  · rw [x_p_row (by omega), x_p_ne (by omega)]
  · rw [x_p_row (by omega), x_p_ne (by omega), x_p_ne (by omega)]
theorem f_sl0_1 {d : xd} {k : Nat} : f_sl0 d k 173 1 = d 173 1 := by
  unfold f_sl0
  split
  · rw [x_p_row (by omega)]
  · rw [x_p_row (by omega), x_p_row (by omega)]
theorem m_w1 {d : xd} {ls : List Nat} {a : Nat} (h : m_l d ls) : m_l (g_w1 d ls.length a) (ls ++ [a]) := by
  unfold g_w1
  refine ⟨?_, fun j hj => ?_⟩
  · rw [x_p_at]
    simp
  · rw [List.length_append, List.length_singleton] at hj
    rcases Nat.lt_or_ge j ls.length with z | z
    · rw [x_p_ne (by omega), x_p_row (by omega), n_at z]
      exact h.2 j z
    · have e : j = ls.length := by omega
      subst e
      rw [x_p_ne (by omega), x_p_at, n_end]
theorem m_w2 {d : xd} {ls : List Nat} {a v : Nat} (h : m_l d ls) : m_l (g_w2 d ls.length a v) (ls ++ [a] ++ n_dg v) := by
  unfold g_w2 n_dg
  have h1 := m_w1 (a := a) h
  have e1 : (ls ++ [a]).length = ls.length + 1 := by simp
  by_cases hv : v < 10
  · rw [if_pos hv, if_pos hv]
    have h2 := m_w1 (a := 48 + v) h1
    rw [e1] at h2
    exact h2
  · rw [if_neg hv, if_neg hv]
    have h2 := m_w1 (a := 48 + v / 10) h1
    rw [e1] at h2
    have h3 := m_w1 (a := 48 + v % 10) h2
    have e2 : (ls ++ [a] ++ [48 + v / 10]).length = ls.length + 2 := by simp
    rw [e2] at h3
    have e3 : ls ++ [a] ++ [48 + v / 10, 48 + v % 10] = ls ++ [a] ++ [48 + v / 10] ++ [48 + v % 10] := by simp
    rw [e3]
    exact h3
def n_ln (i a b v w : Nat) : List Nat := [48 + i] ++ [58] ++ n_dg a ++ [42] ++ n_dg b ++ [111] ++ n_dg v ++ [119] ++ n_dg w
theorem g_wl_len {ls : List Nat} {a v : Nat} : g_wl ls.length v = (ls ++ [a] ++ n_dg v).length := by
  unfold g_wl n_dg
  split <;> simp
theorem m_wd {d : xd} {i a b v w : Nat} : m_l (g_wd d i a b v w) (n_ln i a b v w) ∧ g_wk a b v w = (n_ln i a b v w).length := by
  have h0 : m_l (x_p d 175 11 0) [] := ⟨x_p_at, fun j hj => absurd hj (Nat.not_lt_zero j)⟩
  have h1 : m_l (g_w1 (x_p d 175 11 0) 0 (48 + i)) [48 + i] := m_w1 (a := 48 + i) h0
  have h2 := m_w2 (a := 58) (v := a) h1
  have h3 := m_w2 (a := 42) (v := b) h2
  have h4 := m_w2 (a := 111) (v := v) h3
  have h5 := m_w2 (a := 119) (v := w) h4
  have e2 : ([48 + i] : List Nat).length = 1 := rfl
  have e3 : ([48 + i] ++ [58] ++ n_dg a : List Nat).length = g_wl 1 a := by rw [← g_wl_len, e2]
  have e4 : ([48 + i] ++ [58] ++ n_dg a ++ [42] ++ n_dg b : List Nat).length = g_wl (g_wl 1 a) b := by rw [← g_wl_len, e3]
  have e5 : ([48 + i] ++ [58] ++ n_dg a ++ [42] ++ n_dg b ++ [111] ++ n_dg v : List Nat).length = g_wl (g_wl (g_wl 1 a) b) v := by rw [← g_wl_len, e4]
  have e6 : ([48 + i] ++ [58] ++ n_dg a ++ [42] ++ n_dg b ++ [111] ++ n_dg v ++ [119] ++ n_dg w : List Nat).length = g_wl (g_wl (g_wl (g_wl 1 a) b) v) w := by rw [← g_wl_len, e5]
  rw [e2] at h2 h3 h4 h5
  rw [e3] at h3 h4 h5
  rw [e4] at h4 h5
  rw [e5] at h5
  unfold g_wd g_wk n_ln
  exact ⟨h5, e6.symm⟩
theorem m_we {d : xd} {i a b v w : Nat} {off : Bool} : m_l (g_we d i a b v w off) (n_ln i a b v w ++ if off = true then [33] else []) ∧ g_wn a b v w off = (n_ln i a b v w ++ if off = true then [33] else []).length := by
  obtain ⟨h, e⟩ := m_wd (d := d) (i := i) (a := a) (b := b) (v := v) (w := w)
  unfold g_we g_wn
  by_cases ho : off = true
  · rw [if_pos ho, if_pos ho, if_pos ho, e]
    exact ⟨m_w1 h, by simp⟩
  · rw [if_neg ho, if_neg ho, if_neg ho, List.append_nil]
    exact ⟨h, e⟩
theorem n_ln_lt {i a b v w : Nat} (hi : i < 10) (ha : a < 100) (hb : b < 100) (hv : v < 100) (hw : w < 100) {off : Bool} : ∀ x ∈ (n_ln i a b v w ++ if off = true then [33] else []), x < 128 := by
  intro x hx
  have h1 := n_dg_lt ha x
  have h2 := n_dg_lt hb x
  have h3 := n_dg_lt hv x
  have h4 := n_dg_lt hw x
  unfold n_ln at hx
  simp only [List.mem_append, List.mem_singleton] at hx
  rcases hx with ((((((((hx | hx) | hx) | hx) | hx) | hx) | hx) | hx) | hx) | hx
  · omega
  · omega
  · exact h1 hx
  · omega
  · exact h2 hx
  · omega
  · exact h3 hx
  · omega
  · exact h4 hx
  · by_cases ho : off = true
    · rw [if_pos ho, List.mem_singleton] at hx
      omega
    · rw [if_neg ho] at hx
      exact absurd hx List.not_mem_nil
theorem n_ln_len {i a b v w : Nat} {off : Bool} : (n_ln i a b v w ++ if off = true then [33] else []).length ≤ 15 := by
  have h1 := n_dg_len a
  have h2 := n_dg_len b
  have h3 := n_dg_len v
  have h4 := n_dg_len w
  unfold n_ln
  simp only [List.length_append, List.length_singleton]
  by_cases ho : off = true
  · rw [if_pos ho, List.length_singleton]
    omega
  · rw [if_neg ho, List.length_nil]
    omega

def f_ag (d : xd) (mm : Nat) (sh : Nat → Nat) : Nat → xd
  | 0 => d
  | a0 + 1 => f_dir (f_dbs (f_ag d mm sh a0) 159 (mm + 1) a0 sh) 163 mm a0 sh
theorem f_ag_out {d : xd} {mm k : Nat} {sh : Nat → Nat} (h : k < 160 ∨ 166 < k) : ∀ a, f_ag d mm sh a k = d k
  | 0 => rfl
  | a + 1 => by rw [f_ag, f_dir_out (by omega), f_dbs_out (by omega), f_ag_out h a]
theorem x_21 {i : Nat} (hi : i ≤ 21) (h : (20 : Int32) < nI i) : i = 21 := by
  have := (nI_ltI (a := 20) (by omega) (by omega)).mp h
  omega

theorem x_22b {i : Nat} (h : ¬ (20 : Int32) < nI i) (hi : i ≤ 21) : i < 21 := by
  rcases Nat.lt_or_ge i 21 with z | z
  · exact z
  · exact absurd ((nI_ltI (a := 20) (by omega) (by omega)).mpr (by omega)) h
set_option maxHeartbeats 1000000 in
set_option maxRecDepth 100000 in
theorem c_F_agree (l : Launch) (G : xG) (d : xd) (mm : Nat) (hn : d 2 0 = nI (mm + 1)) (h8 : mm + 1 ≤ 8) (sh : Nat → Nat) (hs : ∀ j, j < mm + 1 → d 4 j = nI (sh j)) (hs9 : ∀ j, j < mm + 1 → sh j ≤ 9) (hS : 1 ≤ f_sn sh (mm + 1)) : x_M G l yX11_apportionmentsAgree wsX11_apportionmentsAgree 5 0 0 [.ref (x_b G + 0)] d (some (.int 1)) (f_ag d mm sh 21) := by
  have iX1 : ∀ w ∈ u_ws RX1 TX1 3, w ∈ wsX11_apportionmentsAgree := by decide +kernel
  have iX11 : ∀ w ∈ u_ws RX11 TX11 13, w ∈ wsX11_apportionmentsAgree := by decide +kernel
  have iX5 : ∀ w ∈ u_ws RX5 TX5 8, w ∈ wsX11_apportionmentsAgree := by decide +kernel
  have iX9 : ∀ w ∈ u_ws RX9 TX9 3, w ∈ wsX11_apportionmentsAgree := by decide +kernel
  refine x_start (cc := cX11_apportionmentsAgree) (maxL := 3) (ret := (some .boolean)) (own := RX11) (by decide) rfl rfl (Nat.le_of_ble_eq_true rfl) (lst := [(0, .ref (x_b G + 0))]) rfl ?_
  intro p e s m args below meth c C hr hlocks
  refine a_iconst C dX11_apportionmentsAgree_0 (v := 0) (by decide) ?_
  refine a_istore_n C dX11_apportionmentsAgree_1 (by decide) (lst2 := [(1, .int 0), (0, .ref (x_b G + 0))]) rfl ?_
  have L2 : ∀ (j i : Nat), i ≤ 21 → 21 < i + j → Ab G p l e (x_rm 5 0 0) s m args below meth c 3 0 0 (MQ below (x_Q G (some (.int 1)) (f_ag d mm sh 21)) args s 0 0 (x_A G)) 2 [(1, .int (nI i)), (0, .ref (x_b G + 0))] [] (f_ag d mm sh i) := by
    intro j
    induction j with
    | zero => intro i h1 h2; exact absurd h2 (by omega)
    | succ j ih =>
      intro i hi hj 
      refine a_iload_n C dX11_apportionmentsAgree_2 0 rfl ?_
      refine a_bipush C dX11_apportionmentsAgree_3 (v := 20) (by decide) ?_
      refine a_icmp_gt C dX11_apportionmentsAgree_5 (tgt := 89) (by decide) (fun h5 => ?_) (fun h5 => ?_)
      · skip
        have e : i = 21 := x_21 hi h5
        have e9 := e.symm
        subst e9
        clear e
        refine a_iconst C dX11_apportionmentsAgree_89 (v := 1) (by decide) ?_
        exact a_zret C hlocks hr rfl dX11_apportionmentsAgree_90 rfl rfl
      · skip
        have hlt : i < 21 := x_22b h5 hi
        refine a_aload_n C dX11_apportionmentsAgree_8 1 rfl ?_
        refine a_getR C (k := 0) iX11 x_k0 rfl (j := 6) rfl (by decide) (by decide +kernel) dX11_apportionmentsAgree_9 ?_
        refine a_aload_n C dX11_apportionmentsAgree_12 1 rfl ?_
        refine a_getR C (k := 0) iX11 x_k0 rfl (j := 0) rfl (by decide) (by decide +kernel) dX11_apportionmentsAgree_13 ?_
        refine a_getR C (k := 1) iX9 (x_sS0 x_isS_1) rfl (j := 0) rfl (by decide) (by decide +kernel) dX11_apportionmentsAgree_16 ?_
        refine a_iload_n C dX11_apportionmentsAgree_19 0 rfl ?_
        refine a_callV C (k := 159) (As := [.ref (x_b G + 2), .int (nI i)]) (rest := []) (c_X1_divideBySorting l G (f_ag d mm sh i) 159 1 (mm + 1) i sh x_isA_0 x_isS_1 (by rw [f_ag_out (by omega)]; exact hn) h8 (fun j hj => by rw [f_ag_out (by omega)]; exact hs j hj) hs9 hS (by omega)) (cwV 2 C.1.2.2.2.2 gX11_apportionmentsAgree_X1_divideBySorting rfl rfl rfl (by decide +kernel) ⟨Nat.le_of_ble_eq_true rfl, Nat.le_of_ble_eq_true rfl⟩) x_k159 (q := (RX1, TX1, 3)) rfl rfl rfl rfl (Nat.le_of_ble_eq_true rfl) dX11_apportionmentsAgree_20 ⟨Nat.le_of_ble_eq_true rfl, Nat.le_of_ble_eq_true rfl⟩ ?_
        refine a_aload_n C dX11_apportionmentsAgree_23 1 rfl ?_
        refine a_getR C (k := 0) iX11 x_k0 rfl (j := 7) rfl (by decide) (by decide +kernel) dX11_apportionmentsAgree_24 ?_
        refine a_aload_n C dX11_apportionmentsAgree_27 1 rfl ?_
        refine a_getR C (k := 0) iX11 x_k0 rfl (j := 0) rfl (by decide) (by decide +kernel) dX11_apportionmentsAgree_28 ?_
        refine a_getR C (k := 1) iX9 (x_sS0 x_isS_1) rfl (j := 0) rfl (by decide) (by decide +kernel) dX11_apportionmentsAgree_31 ?_
        refine a_iload_n C dX11_apportionmentsAgree_34 0 rfl ?_
        refine a_callV C (k := 163) (As := [.ref (x_b G + 2), .int (nI i)]) (rest := []) (c_X1_divideInRounds l G ((f_dbs (f_ag d mm sh i) 159 (mm + 1) i sh)) 163 1 mm i sh x_isA_1 x_isS_1 (by rw [f_dbs_out (by omega), f_ag_out (by omega)]; exact hn) h8 (fun j hj => by rw [f_dbs_out (by omega), f_ag_out (by omega)]; exact hs j hj) hs9 hS (by omega)) (cwV 2 C.1.2.2.2.2 gX11_apportionmentsAgree_X1_divideInRounds rfl rfl rfl (by decide +kernel) ⟨Nat.le_of_ble_eq_true rfl, Nat.le_of_ble_eq_true rfl⟩) x_k163 (q := (RX1, TX1, 3)) rfl rfl rfl rfl (Nat.le_of_ble_eq_true rfl) dX11_apportionmentsAgree_35 ⟨Nat.le_of_ble_eq_true rfl, Nat.le_of_ble_eq_true rfl⟩ ?_
        refine a_toD (d2 := f_ag d mm sh (i + 1)) rfl ?_
        refine a_iconst C dX11_apportionmentsAgree_38 (v := 0) (by decide) ?_
        refine a_istore_n C dX11_apportionmentsAgree_39 (by decide) (lst2 := [(2, .int 0), (1, .int (nI i)), (0, .ref (x_b G + 0))]) rfl ?_
        have L40 : ∀ (j w : Nat), w ≤ (mm + 1) → (mm + 1) < w + j → Ab G p l e (x_rm 5 0 0) s m args below meth c 3 0 0 (MQ below (x_Q G (some (.int 1)) (f_ag d mm sh 21)) args s 0 0 (x_A G)) 40 [(2, .int (nI w)), (1, .int (nI i)), (0, .ref (x_b G + 0))] [] (f_ag d mm sh (i + 1)) := by
          intro j
          induction j with
          | zero => intro w h1 h2; exact absurd h2 (by omega)
          | succ j ihw =>
            intro w hw9 hj 
            refine a_iload_n C dX11_apportionmentsAgree_40 0 rfl ?_
            refine a_aload_n C dX11_apportionmentsAgree_41 2 rfl ?_
            refine a_getR C (k := 0) iX11 x_k0 rfl (j := 0) rfl (by decide) (by decide +kernel) dX11_apportionmentsAgree_42 ?_
            refine a_getR C (k := 1) iX9 (x_sS0 x_isS_1) rfl (j := 0) rfl (by decide) (by decide +kernel) dX11_apportionmentsAgree_45 ?_
            refine a_getI C (k := 2) iX5 (x_sS1 x_isS_1) rfl (j := 0) rfl (by decide) (by decide +kernel) dX11_apportionmentsAgree_48 ?_
            refine a_top (y := (nI ((mm + 1)))) (by rw [f_ag_out (by omega)]; exact hn) ?_
            refine a_icmp_ge C dX11_apportionmentsAgree_51 (tgt := 83) (by decide) (fun h51 => ?_) (fun h51 => ?_)
            · skip
              have e := x_ge h51 hw9 (by omega)
              clear e
              refine a_iinc C dX11_apportionmentsAgree_83 1 rfl (v := (nI (i + 1))) (x_inc i) (by decide) (lst2 := [(1, .int (nI (i + 1))), (2, .int (nI w)), (0, .ref (x_b G + 0))]) rfl ?_
              refine a_goto C dX11_apportionmentsAgree_86 (tgt := 2) (by decide) ?_
              refine a_sub (lst2 := [(1, .int (nI (i + 1))), (0, .ref (x_b G + 0))]) [0, 2] rfl ?_
              refine a_to (lst2 := [(1, .int (nI ((i + 1)))), (0, .ref (x_b G + 0))]) (st2 := []) (d2 := f_ag d mm sh ((i + 1))) rfl rfl rfl ?_
              exact ih (i + 1) (by omega) (by omega) 
            · skip
              have hlw := x_nge h51 hw9
              refine a_aload_n C dX11_apportionmentsAgree_54 2 rfl ?_
              refine a_getR C (k := 0) iX11 x_k0 rfl (j := 6) rfl (by decide) (by decide +kernel) dX11_apportionmentsAgree_55 ?_
              refine a_getR C (k := 159) iX1 x_k159 rfl (j := 0) rfl (by decide) (by decide +kernel) dX11_apportionmentsAgree_58 ?_
              refine a_iload_n C dX11_apportionmentsAgree_61 0 rfl ?_
              refine a_ialdN C (k := 160) x_k160 (i := w) rfl (by omega) (by first | decide | omega) dX11_apportionmentsAgree_62 ?_
              refine a_top (y := (nI (g_por i sh (mm + 1) w))) (by rw [f_ag, f_dir_out (by omega)]; exact (congrFun f_dbs_por w).trans (s_por h8 hs9 hS hlw)) ?_
              refine a_aload_n C dX11_apportionmentsAgree_63 2 rfl ?_
              refine a_getR C (k := 0) iX11 x_k0 rfl (j := 7) rfl (by decide) (by decide +kernel) dX11_apportionmentsAgree_64 ?_
              refine a_getR C (k := 163) iX1 x_k163 rfl (j := 0) rfl (by decide) (by decide +kernel) dX11_apportionmentsAgree_67 ?_
              refine a_iload_n C dX11_apportionmentsAgree_70 0 rfl ?_
              refine a_ialdN C (k := 164) x_k164 (i := w) rfl (by omega) (by first | decide | omega) dX11_apportionmentsAgree_71 ?_
              refine a_top (y := (nI (g_por i sh (mm + 1) w))) (by rw [f_ag]; exact (congrFun f_dir_prr w).trans (s_prr h8 hs9 hS hlw)) ?_
              refine a_icmp_eq C dX11_apportionmentsAgree_72 (tgt := 77) (by decide) (fun h72 => ?_) (fun h => False.elim (h rfl))
              refine a_iinc C dX11_apportionmentsAgree_77 0 rfl (v := (nI (w + 1))) (x_inc w) (by decide) (lst2 := [(2, .int (nI (w + 1))), (1, .int (nI i)), (0, .ref (x_b G + 0))]) rfl ?_
              refine a_goto C dX11_apportionmentsAgree_80 (tgt := 40) (by decide) ?_
              refine a_sub (lst2 := [(2, .int (nI (w + 1))), (1, .int (nI i)), (0, .ref (x_b G + 0))]) [0, 1, 2] rfl ?_
              exact ihw (w + 1) (by omega) (by omega) 
        refine a_sub (lst2 := [(2, .int 0), (1, .int (nI i)), (0, .ref (x_b G + 0))]) [0, 1, 2] rfl ?_
        exact L40 ((mm + 1) + 1) 0 (by omega) (by omega) 
  refine a_sub (lst2 := [(1, .int 0), (0, .ref (x_b G + 0))]) [0, 1] rfl ?_
  exact L2 (21 + 1) 0 (by omega) (by omega) 

set_option maxHeartbeats 1000000 in
set_option maxRecDepth 100000 in
theorem c_F_agree_0 (l : Launch) (G : xG) (d : xd) (hn : d 2 0 = 0) : x_M G l yX11_apportionmentsAgree wsX11_apportionmentsAgree 5 0 0 [.ref (x_b G + 0)] d (some (.int 1)) d := by
  have iX11 : ∀ w ∈ u_ws RX11 TX11 13, w ∈ wsX11_apportionmentsAgree := by decide +kernel
  have iX5 : ∀ w ∈ u_ws RX5 TX5 8, w ∈ wsX11_apportionmentsAgree := by decide +kernel
  have iX9 : ∀ w ∈ u_ws RX9 TX9 3, w ∈ wsX11_apportionmentsAgree := by decide +kernel
  refine x_start (cc := cX11_apportionmentsAgree) (maxL := 3) (ret := (some .boolean)) (own := RX11) (by decide) rfl rfl (Nat.le_of_ble_eq_true rfl) (lst := [(0, .ref (x_b G + 0))]) rfl ?_
  intro p e s m args below meth c C hr hlocks
  refine a_iconst C dX11_apportionmentsAgree_0 (v := 0) (by decide) ?_
  refine a_istore_n C dX11_apportionmentsAgree_1 (by decide) (lst2 := [(1, .int 0), (0, .ref (x_b G + 0))]) rfl ?_
  have L2 : ∀ (j i : Nat), i ≤ 21 → 21 < i + j → Ab G p l e (x_rm 5 0 0) s m args below meth c 3 0 0 (MQ below (x_Q G (some (.int 1)) d) args s 0 0 (x_A G)) 2 [(1, .int (nI i)), (0, .ref (x_b G + 0))] [] d := by
    intro j
    induction j with
    | zero => intro i h1 h2; exact absurd h2 (by omega)
    | succ j ih =>
      intro i hi hj 
      refine a_iload_n C dX11_apportionmentsAgree_2 0 rfl ?_
      refine a_bipush C dX11_apportionmentsAgree_3 (v := 20) (by decide) ?_
      refine a_icmp_gt C dX11_apportionmentsAgree_5 (tgt := 89) (by decide) (fun h5 => ?_) (fun h5 => ?_)
      · skip
        have e : i = 21 := x_21 hi h5
        have e9 := e.symm
        subst e9
        clear e
        refine a_iconst C dX11_apportionmentsAgree_89 (v := 1) (by decide) ?_
        exact a_zret C hlocks hr rfl dX11_apportionmentsAgree_90 rfl rfl
      · skip
        have hlt : i < 21 := x_22b h5 hi
        refine a_aload_n C dX11_apportionmentsAgree_8 1 rfl ?_
        refine a_getR C (k := 0) iX11 x_k0 rfl (j := 6) rfl (by decide) (by decide +kernel) dX11_apportionmentsAgree_9 ?_
        refine a_aload_n C dX11_apportionmentsAgree_12 1 rfl ?_
        refine a_getR C (k := 0) iX11 x_k0 rfl (j := 0) rfl (by decide) (by decide +kernel) dX11_apportionmentsAgree_13 ?_
        refine a_getR C (k := 1) iX9 (x_sS0 x_isS_1) rfl (j := 0) rfl (by decide) (by decide +kernel) dX11_apportionmentsAgree_16 ?_
        refine a_iload_n C dX11_apportionmentsAgree_19 0 rfl ?_
        refine a_callV C (k := 159) (As := [.ref (x_b G + 2), .int (nI i)]) (rest := []) (c_X1_divideBySorting_0 l G d 159 1 x_isA_0 x_isS_1 hn (nI i)) (cwV 2 C.1.2.2.2.2 gX11_apportionmentsAgree_X1_divideBySorting rfl rfl rfl (by decide +kernel) ⟨Nat.le_of_ble_eq_true rfl, Nat.le_of_ble_eq_true rfl⟩) x_k159 (q := (RX1, TX1, 3)) rfl rfl rfl rfl (Nat.le_of_ble_eq_true rfl) dX11_apportionmentsAgree_20 ⟨Nat.le_of_ble_eq_true rfl, Nat.le_of_ble_eq_true rfl⟩ ?_
        refine a_toD (d2 := d) (by rw [show f_O (d 161) (d 162) 0 = d 162 from f_fill_0 _ _]; exact (x_r_id d 162).symm) ?_
        refine a_aload_n C dX11_apportionmentsAgree_23 1 rfl ?_
        refine a_getR C (k := 0) iX11 x_k0 rfl (j := 7) rfl (by decide) (by decide +kernel) dX11_apportionmentsAgree_24 ?_
        refine a_aload_n C dX11_apportionmentsAgree_27 1 rfl ?_
        refine a_getR C (k := 0) iX11 x_k0 rfl (j := 0) rfl (by decide) (by decide +kernel) dX11_apportionmentsAgree_28 ?_
        refine a_getR C (k := 1) iX9 (x_sS0 x_isS_1) rfl (j := 0) rfl (by decide) (by decide +kernel) dX11_apportionmentsAgree_31 ?_
        refine a_iload_n C dX11_apportionmentsAgree_34 0 rfl ?_
        refine a_callV C (k := 163) (As := [.ref (x_b G + 2), .int (nI i)]) (rest := []) (c_X1_divideInRounds_0 l G d 163 1 x_isA_1 x_isS_1 hn (nI i)) (cwV 2 C.1.2.2.2.2 gX11_apportionmentsAgree_X1_divideInRounds rfl rfl rfl (by decide +kernel) ⟨Nat.le_of_ble_eq_true rfl, Nat.le_of_ble_eq_true rfl⟩) x_k163 (q := (RX1, TX1, 3)) rfl rfl rfl rfl (Nat.le_of_ble_eq_true rfl) dX11_apportionmentsAgree_35 ⟨Nat.le_of_ble_eq_true rfl, Nat.le_of_ble_eq_true rfl⟩ ?_
        refine a_iconst C dX11_apportionmentsAgree_38 (v := 0) (by decide) ?_
        refine a_istore_n C dX11_apportionmentsAgree_39 (by decide) (lst2 := [(2, .int 0), (1, .int (nI i)), (0, .ref (x_b G + 0))]) rfl ?_
        have L40 : ∀ (j w : Nat), w ≤ 0 → 0 < w + j → Ab G p l e (x_rm 5 0 0) s m args below meth c 3 0 0 (MQ below (x_Q G (some (.int 1)) d) args s 0 0 (x_A G)) 40 [(2, .int (nI w)), (1, .int (nI i)), (0, .ref (x_b G + 0))] [] d := by
          intro j
          induction j with
          | zero => intro w h1 h2; exact absurd h2 (by omega)
          | succ j ihw =>
            intro w hw9 hj 
            refine a_iload_n C dX11_apportionmentsAgree_40 0 rfl ?_
            refine a_aload_n C dX11_apportionmentsAgree_41 2 rfl ?_
            refine a_getR C (k := 0) iX11 x_k0 rfl (j := 0) rfl (by decide) (by decide +kernel) dX11_apportionmentsAgree_42 ?_
            refine a_getR C (k := 1) iX9 (x_sS0 x_isS_1) rfl (j := 0) rfl (by decide) (by decide +kernel) dX11_apportionmentsAgree_45 ?_
            refine a_getI C (k := 2) iX5 (x_sS1 x_isS_1) rfl (j := 0) rfl (by decide) (by decide +kernel) dX11_apportionmentsAgree_48 ?_
            refine a_top (y := 0) hn ?_
            refine a_icmp_ge C dX11_apportionmentsAgree_51 (tgt := 83) (by decide) (fun h51 => ?_) (fun h => False.elim (h (nI_pos' (by omega))))
            refine a_iinc C dX11_apportionmentsAgree_83 1 rfl (v := (nI (i + 1))) (x_inc i) (by decide) (lst2 := [(1, .int (nI (i + 1))), (2, .int (nI w)), (0, .ref (x_b G + 0))]) rfl ?_
            refine a_goto C dX11_apportionmentsAgree_86 (tgt := 2) (by decide) ?_
            refine a_sub (lst2 := [(1, .int (nI (i + 1))), (0, .ref (x_b G + 0))]) [0, 2] rfl ?_
            exact ih (i + 1) (by omega) (by omega) 
        refine a_sub (lst2 := [(2, .int 0), (1, .int (nI i)), (0, .ref (x_b G + 0))]) [0, 1, 2] rfl ?_
        exact L40 (0 + 1) 0 (by omega) (by omega) 
  refine a_sub (lst2 := [(1, .int 0), (0, .ref (x_b G + 0))]) [0, 1] rfl ?_
  exact L2 (21 + 1) 0 (by omega) (by omega) 

set_option maxHeartbeats 1000000 in
set_option maxRecDepth 100000 in
theorem c_F_isBalanced (l : Launch) (G : xG) (d : xd) (n : Nat) (hn : d 2 0 = nI n) (h8 : n ≤ 8) (hb : f_bal d 1 n) (de : xd) (hag : x_M G l yX11_apportionmentsAgree wsX11_apportionmentsAgree 5 0 0 [.ref (x_b G + 0)] d (some (.int 1)) de) : x_M G l yX11_isBalanced wsX11_isBalanced 6 0 0 [.ref (x_b G + 0)] d (some (.int 1)) de := by
  have iX11 : ∀ w ∈ u_ws RX11 TX11 13, w ∈ wsX11_isBalanced := by decide +kernel
  refine x_start (cc := cX11_isBalanced) (maxL := 1) (ret := (some .boolean)) (own := RX11) (by decide) rfl rfl (Nat.le_of_ble_eq_true rfl) (lst := [(0, .ref (x_b G + 0))]) rfl ?_
  intro p e s m args below meth c C hr hlocks
  refine a_aload_n C dX11_isBalanced_0 0 rfl ?_
  refine a_getR C (k := 0) iX11 x_k0 rfl (j := 0) rfl (by decide) (by decide +kernel) dX11_isBalanced_1 ?_
  refine a_callV C (k := 1) (As := []) (rest := []) (c_X9_totalsBalance l G d 1 n x_isS_1 hn h8 hb) (cwV 0 C.1.2.2.2.2 gX11_isBalanced_X9_totalsBalance rfl rfl rfl (by decide +kernel) ⟨Nat.le_of_ble_eq_true rfl, Nat.le_of_ble_eq_true rfl⟩) (x_sS0 x_isS_1) (q := (RX9, TX9, 3)) rfl rfl rfl rfl (Nat.le_of_ble_eq_true rfl) dX11_isBalanced_4 ⟨Nat.le_of_ble_eq_true rfl, Nat.le_of_ble_eq_true rfl⟩ ?_
  refine a_if_eq C dX11_isBalanced_7 (tgt := 21) (by decide) (fun h => absurd h (by decide)) (fun _ => ?_)
  refine a_aload_n C dX11_isBalanced_10 0 rfl ?_
  refine a_callV C (k := 0) (As := []) (rest := []) (hag) (cwV 0 C.1.2.2.2.2 gX11_isBalanced_X11_apportionmentsAgree rfl rfl rfl (by decide +kernel) ⟨Nat.le_of_ble_eq_true rfl, Nat.le_of_ble_eq_true rfl⟩) x_k0 (q := (RX11, TX11, 13)) rfl rfl rfl rfl (Nat.le_of_ble_eq_true rfl) dX11_isBalanced_11 ⟨Nat.le_of_ble_eq_true rfl, Nat.le_of_ble_eq_true rfl⟩ ?_
  refine a_if_eq C dX11_isBalanced_14 (tgt := 21) (by decide) (fun h => absurd h (by decide)) (fun _ => ?_)
  refine a_iconst C dX11_isBalanced_17 (v := 1) (by decide) ?_
  refine a_goto C dX11_isBalanced_18 (tgt := 22) (by decide) ?_
  exact a_zret C hlocks hr rfl dX11_isBalanced_22 rfl rfl


