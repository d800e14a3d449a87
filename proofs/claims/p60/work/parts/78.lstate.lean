/-! the law's own pictures of a state: a row a lamp, a row a moth, one number for all -/
def q_r7 (z : Nat → Int32) (i : Nat) : Nat → Int32 := upd (upd (upd (upd (upd (upd (upd (fun _ => 0) 0 (z (6 + i))) 1 (z (14 + i))) 2 (z (22 + i))) 3 (x_bi (z (30 + i) = 0))) 4 (z (38 + i))) 5 (z (46 + i))) 6 (z (54 + i))
def q_r3 (z : Nat → Int32) (k : Nat) : Nat → Int32 := upd (upd (upd (fun _ => 0) 0 (z (62 + k) - 1)) 1 (z (68 + k))) 2 (z (74 + k))
def q_f1 (v : Int32) (g : Nat → Int32) : Nat → Int32
  | 0 => v
  | j + 1 => 31 * q_f1 v g j + g j
def q_f2 (v : Int32) (F : Nat → Nat → Int32) (c : Nat) : Nat → Int32
  | 0 => v
  | k + 1 => q_f1 (q_f2 v F c k) (F k) c
def q_hash (z : Nat → Int32) : Int32 := 31 * q_f2 (q_f2 (31 * (31 * z 2 + z 3) + 31 * z 4 + z 5) (q_r7 z) 7 (q_n z)) (q_r3 z) 3 (q_w z) + z 0
/-- the rows made so far: i of n, each of c numbers -/
def l_fr (G : xG) (n c i : Nat) (ad : Nat → Nat) (F : Nat → Nat → Int32) : nF := fun k => if k = 0 then .inl (x_c G 6, n, .inr (.inr (.inr (.inr (fun j => if j < i then some (ad (j + 1)) else none))))) else .inl (x_c G 0, c, .inl (F (k - 1)))
theorem l_fr_0 {G : xG} {n c i : Nat} {ad : Nat → Nat} {F : Nat → Nat → Int32} : l_fr G n c i ad F 0 = .inl (x_c G 6, n, .inr (.inr (.inr (.inr (fun j => if j < i then some (ad (j + 1)) else none))))) := if_pos rfl
theorem l_fr_00 {G : xG} {n c : Nat} {ad : Nat → Nat} {F : Nat → Nat → Int32} : l_fr G n c 0 ad F 0 = .inl (x_c G 6, n, .inr (.inr (.inr (.inr (fun _ => none))))) := by
  rw [l_fr_0]
  simp
theorem l_fr_s {G : xG} {n c i k : Nat} {ad : Nat → Nat} {F : Nat → Nat → Int32} : l_fr G n c i ad F (k + 1) = .inl (x_c G 0, c, .inl (F k)) := if_neg (by omega)
theorem l_upup (f : nF) (k : Nat) (e e2 : va_E) : ∀ i, va_up (va_up f k e) k e2 i = va_up f k e2 i := by
  intro i
  by_cases hi : i = k
  · subst hi
    rw [va_up_self, va_up_self]
  · rw [va_up_ne _ _ hi, va_up_ne _ _ hi, va_up_ne _ _ hi]
theorem l_fr_next {G : xG} {n c i a : Nat} {ad : Nat → Nat} {F : Nat → Nat → Int32} : ∀ k, k < i + 2 → l_fr G n c (i + 1) (l_up ad (i + 1) a) F k = va_up (va_up (l_fr G n c i ad F) (i + 1) (.inl (x_c G 0, c, .inl (F i)))) 0 (.inl (x_c G 6, n, .inr (.inr (.inr (.inr (va_up (fun j => if j < i then some (ad (j + 1)) else none) i (some a))))))) k := by
  intro k hk
  cases k with
  | zero =>
    rw [va_up_self, l_fr_0]
    congr 7
    funext j
    by_cases hj : j = i
    · subst hj
      rw [va_up_self, if_pos (by omega), l_up_at]
    · rw [va_up_ne _ _ hj]
      by_cases hj2 : j < i
      · rw [if_pos (by omega), if_pos hj2, l_up_ne _ _ (by omega)]
      · rw [if_neg (by omega), if_neg hj2]
  | succ k =>
    rw [va_up_ne _ _ (by omega), l_fr_s]
    by_cases hki : k = i
    · subst hki
      rw [va_up_self]
    · rw [va_up_ne _ _ (by omega), l_fr_s]
def l_QA (G : xG) (d : xd) (n c : Nat) (F : Nat → Nat → Int32) : Array Value → State → Outcome → State → Prop := fun _ st oc t => ∃ ad : Nat → Nat, oc = .returned (some (.ref (ad 0))) ∧ va_P (x_D G) vwCl (x_ws G d) t.heap ∧ l_arr G st.heap.size (n + 1) ad (l_fr G n c n ad F) t.heap ∧ va_F (x_A G) st t
/-- the number of rows is read off the row of rows -/
theorem l_bit (x y : Int32) (h : (¬ x_bz x = 0 ∧ y = 0) ∨ (x_bz x = 0 ∧ y = 1)) : (x_bz x = 0 → x_bi (y = 0) = 0) ∧ (¬ x_bz x = 0 → x_bi (y = 0) = 1) := by
  rcases h with ⟨h1, h2⟩ | ⟨h1, h2⟩
  · exact ⟨fun y => absurd y h1, fun _ => by rw [h2]; decide⟩
  · exact ⟨fun _ => by rw [h2]; decide, fun y => absurd h1 y⟩
set_option maxHeartbeats 4000000 in
set_option maxRecDepth 100000 in
theorem c_L_lamps (l : Launch) (G : xG) (d : xd) (z : Nat → Int32) (B n w : Nat) (t : r_T B d 1 z n w) (hA : ∀ q, x_A G q → q < x_b G + 175) : Met l yL_lamps wsL_lamps (x_rm 4 9 64) (va_Pc [.ref (x_b G + 0)] (x_U G d)) (l_QA G d n 7 (q_r7 z)) 9 64 (x_A G) := by
  obtain ⟨⟨hn, hn2, hw, hw2, e5, e6, e7⟩, ⟨h8, h6, v3, v4, v5⟩, -, -⟩ := id t
  refine Met.ofW (cc := cL_lamps) (maxL := 3) (ret := some (.array (.array .int))) (by decide) rfl ?_
  intro p e s m args below meth c s₁ B9 hml hv
  obtain ⟨rfl, hP0, hK⟩ := hv
  have hl0 := lv_entry [Value.ref (x_b G + 0)] (n := 3) (Nat.le_of_ble_eq_true rfl)
  rw [lg_entry_eq]
  have C : Cx G p s m _ c cL_lamps wsL_lamps RL 3 := ⟨⟨B9.exec, B9.bytes, hml, findClass_of_methodNamed B9.named, atoms_spec (ws := wsL_lamps) B9.pre⟩, hK⟩
  have hbs : x_b G + 175 ≤ s.heap.size := l_P_lt hP0
  have hblk : ∀ q, x_A G q → q < s.heap.size := fun q hq => by have := hA q hq; omega
  have hc0 : ∀ {k : Nat}, k ≤ 9 → k + 0 ≤ (x_rm 4 9 64).cells := fun h => h
  have hs0 : ∀ {k : Nat}, k ≤ 64 → k + 0 ≤ (x_rm 4 9 64).slots := fun h => h
  suffices hgo : Lb p l e (x_rm 4 9 64) s m #[Value.ref (x_b G + 0)] below meth c 3 0 0 (MQ below (l_QA G d n 7 (q_r7 z)) #[Value.ref (x_b G + 0)] s 9 64 (x_A G)) (x_A G) (l_PA G d s.heap.size 0 (fun _ => 0) (fun _ => .inl (x_c G 0, 0, .inl (fun _ => 0)))) 0 [(0, .ref (x_b G + 0))] [] from
    hgo s.heap [] _ ⟨hP0, ⟨fun k hk => absurd hk (Nat.not_lt_zero k), fun i j hi => absurd hi (Nat.not_lt_zero i)⟩⟩ va_S.rf hl0
  refine l_aload_n C.1 dL_lamps_0 0 rfl ?_
  refine l_callV C hblk (d2 := d) (As := []) (rest := []) (c_F_lampCount l G d) (cwV 0 C.1.2.2.2.2 gL_lamps_X11_lampCount rfl rfl rfl (by decide +kernel) ⟨Nat.le_of_ble_eq_true rfl, Nat.le_of_ble_eq_true rfl⟩) rfl rfl (Nat.le_of_ble_eq_true rfl) dL_lamps_1 ⟨hc0 (by omega), hs0 (by omega)⟩ ?_
  refine l_top (y := nI n) hn ?_
  refine l_newq C hbs (N := n) (by decide +kernel) (nI_pos (by omega)) (nI_clamp (by omega)) (by omega) (by dsimp only [x_rm]; omega) (by dsimp only [x_rm]; omega) dL_lamps_4 (fun a0 => ?_)
  refine l_astore_n C.1 dL_lamps_7 (by decide) (lst2 := [(1, .ref a0), (0, .ref (x_b G + 0))]) rfl ?_
  refine l_iconst C.1 dL_lamps_8 (v := 0) (by decide) ?_
  refine l_istore_n C.1 dL_lamps_9 (by decide) (lst2 := [(2, .int 0), (1, .ref a0), (0, .ref (x_b G + 0))]) rfl ?_
  have L10 : ∀ (j i : Nat) (ad : Nat → Nat), i ≤ n → n < i + j → Lb p l e (x_rm 4 9 64) s m #[Value.ref (x_b G + 0)] below meth c 3 (i + 1) (n + 7 * i) (MQ below (l_QA G d n 7 (q_r7 z)) #[Value.ref (x_b G + 0)] s 9 64 (x_A G)) (x_A G) (l_PA G d s.heap.size (i + 1) ad (l_fr G n 7 i ad (q_r7 z))) 10 [(2, .int (nI i)), (1, .ref (ad 0)), (0, .ref (x_b G + 0))] [] := by
    intro j
    induction j with
    | zero => intro i ad h1 h2; exact absurd h2 (by omega)
    | succ j ih =>
      intro i ad hi hj
      refine l_iload_n C.1 dL_lamps_10 0 rfl ?_
      refine l_aload_n C.1 dL_lamps_11 1 rfl ?_
      refine l_alenQ C (k := 0) (N := n) (by omega) l_fr_0 (v := nI n) rfl dL_lamps_12 ?_
      refine l_icmp_ge C.1 dL_lamps_13 (tgt := 94) (by decide) (fun h13 => ?_) (fun h13 => ?_)
      · skip
        have e : i = n := x_ge h13 hi (by omega)
        subst e
        refine l_aload_n C.1 dL_lamps_94 1 rfl ?_
        intro H locs ls hP hS hl
        refine W.widen (k := 9) (n := 64) (by omega) (by omega) ?_
        exact W.aret C.1.1 C.1.2.1 B9.returns (Or.inr ⟨_, rfl⟩) (Or.inr ⟨_, rfl⟩) (fun t9 ht _ => ⟨ad, rfl, by rw [ht]; exact hP.1, by rw [ht]; exact hP.2, hS.F ht⟩) hS.2.2 dL_lamps_95 B9.notSynchronized
      · skip
        have hlt : i < n := x_nge h13 hi
        refine l_aload_n C.1 dL_lamps_16 1 rfl ?_
        refine l_iload_n C.1 dL_lamps_17 0 rfl ?_
        refine l_bipush C.1 dL_lamps_18 (v := 7) (by decide) ?_
        refine l_newi C hbs (N := 7) (by decide +kernel) (by decide) (by decide) (by decide) (by dsimp only [x_rm]; omega) (by dsimp only [x_rm]; omega) dL_lamps_20 (fun a => ?_)
        refine l_P (P2 := l_PA G d s.heap.size (i + 2) (l_up ad (i + 1) a) (va_up (l_fr G n 7 i ad (q_r7 z)) (i + 1) (.inl (x_c G 0, 7, .inl (fun _ => 0))))) (fun H y => y) ?_
        refine l_to (lst2 := [(2, .int (nI i)), (1, .ref (l_up ad (i + 1) a 0)), (0, .ref (x_b G + 0))]) (st2 := [.ref (l_up ad (i + 1) a (i + 1)), .int (nI i), .ref (l_up ad (i + 1) a 0)]) (by rw [l_up_ne _ _ (by omega)]) (by rw [l_up_ne ad (n := i + 1) (k := 0) a (by omega), l_up_at]) ?_
        refine l_dup C.1 dL_lamps_22 rfl ?_
        refine l_iconst C.1 dL_lamps_23 (v := 0) (by decide) ?_
        refine l_aload_n C.1 dL_lamps_24 2 rfl ?_
        refine l_iload_n C.1 dL_lamps_25 0 rfl ?_
        refine l_callV C hblk (d2 := d) (As := [.int (nI i)]) (rest := [.int 0, .ref (l_up ad (i + 1) a (i + 1)), .ref (l_up ad (i + 1) a (i + 1)), .int (nI i), .ref (l_up ad (i + 1) a 0)]) (c_F_streetOf l G d i n hn h8 hlt) (cwV 1 C.1.2.2.2.2 gL_lamps_X11_streetOf rfl rfl rfl (by decide +kernel) ⟨Nat.le_of_ble_eq_true rfl, Nat.le_of_ble_eq_true rfl⟩) rfl rfl (Nat.le_of_ble_eq_true rfl) dL_lamps_26 ⟨hc0 (by omega), hs0 (by omega)⟩ ?_
        refine l_top (y := z (6 + i)) (e5 i hlt).1 ?_
        refine l_iast C hbs (k := i + 1) (N := 7) (i := 0) (w := (fun _ => 0)) (by omega) (va_up_self _ _ _) rfl (by decide) (by decide) dL_lamps_29 ?_
        refine l_P (P2 := l_PA G d s.heap.size (i + 2) (l_up ad (i + 1) a) (va_up (l_fr G n 7 i ad (q_r7 z)) (i + 1) (.inl (x_c G 0, 7, .inl (upd (fun _ => 0) 0 (z (6 + i))))))) (fun H y => ⟨y.1, y.2.cong (fun k _ => (l_upup _ _ _ _ k).symm) (fun _ _ => rfl)⟩) ?_
        refine l_dup C.1 dL_lamps_30 rfl ?_
        refine l_iconst C.1 dL_lamps_31 (v := 1) (by decide) ?_
        refine l_aload_n C.1 dL_lamps_32 2 rfl ?_
        refine l_iload_n C.1 dL_lamps_33 0 rfl ?_
        refine l_callV C hblk (d2 := d) (As := [.int (nI i)]) (rest := [.int 1, .ref (l_up ad (i + 1) a (i + 1)), .ref (l_up ad (i + 1) a (i + 1)), .int (nI i), .ref (l_up ad (i + 1) a 0)]) (c_F_sharesOf l G d i n hn h8 hlt) (cwV 1 C.1.2.2.2.2 gL_lamps_X11_sharesOf rfl rfl rfl (by decide +kernel) ⟨Nat.le_of_ble_eq_true rfl, Nat.le_of_ble_eq_true rfl⟩) rfl rfl (Nat.le_of_ble_eq_true rfl) dL_lamps_34 ⟨hc0 (by omega), hs0 (by omega)⟩ ?_
        refine l_top (y := z (14 + i)) (e5 i hlt).2.1 ?_
        refine l_iast C hbs (k := i + 1) (N := 7) (i := 1) (w := (upd (fun _ => 0) 0 (z (6 + i)))) (by omega) (va_up_self _ _ _) rfl (by decide) (by decide) dL_lamps_37 ?_
        refine l_P (P2 := l_PA G d s.heap.size (i + 2) (l_up ad (i + 1) a) (va_up (l_fr G n 7 i ad (q_r7 z)) (i + 1) (.inl (x_c G 0, 7, .inl (upd (upd (fun _ => 0) 0 (z (6 + i))) 1 (z (14 + i))))))) (fun H y => ⟨y.1, y.2.cong (fun k _ => (l_upup _ _ _ _ k).symm) (fun _ _ => rfl)⟩) ?_
        refine l_dup C.1 dL_lamps_38 rfl ?_
        refine l_iconst C.1 dL_lamps_39 (v := 2) (by decide) ?_
        refine l_aload_n C.1 dL_lamps_40 2 rfl ?_
        refine l_iload_n C.1 dL_lamps_41 0 rfl ?_
        refine l_callV C hblk (d2 := d) (As := [.int (nI i)]) (rest := [.int 2, .ref (l_up ad (i + 1) a (i + 1)), .ref (l_up ad (i + 1) a (i + 1)), .int (nI i), .ref (l_up ad (i + 1) a 0)]) (c_F_brightnessOf l G d i n hn h8 hlt) (cwV 1 C.1.2.2.2.2 gL_lamps_X11_brightnessOf rfl rfl rfl (by decide +kernel) ⟨Nat.le_of_ble_eq_true rfl, Nat.le_of_ble_eq_true rfl⟩) rfl rfl (Nat.le_of_ble_eq_true rfl) dL_lamps_42 ⟨hc0 (by omega), hs0 (by omega)⟩ ?_
        refine l_top (y := z (22 + i)) (e5 i hlt).2.2.1 ?_
        refine l_iast C hbs (k := i + 1) (N := 7) (i := 2) (w := (upd (upd (fun _ => 0) 0 (z (6 + i))) 1 (z (14 + i)))) (by omega) (va_up_self _ _ _) rfl (by decide) (by decide) dL_lamps_45 ?_
        refine l_P (P2 := l_PA G d s.heap.size (i + 2) (l_up ad (i + 1) a) (va_up (l_fr G n 7 i ad (q_r7 z)) (i + 1) (.inl (x_c G 0, 7, .inl (upd (upd (upd (fun _ => 0) 0 (z (6 + i))) 1 (z (14 + i))) 2 (z (22 + i))))))) (fun H y => ⟨y.1, y.2.cong (fun k _ => (l_upup _ _ _ _ k).symm) (fun _ _ => rfl)⟩) ?_
        refine l_dup C.1 dL_lamps_46 rfl ?_
        refine l_iconst C.1 dL_lamps_47 (v := 3) (by decide) ?_
        refine l_aload_n C.1 dL_lamps_48 2 rfl ?_
        refine l_iload_n C.1 dL_lamps_49 0 rfl ?_
        refine l_callV C hblk (d2 := d) (As := [.int (nI i)]) (rest := [.int 3, .ref (l_up ad (i + 1) a (i + 1)), .ref (l_up ad (i + 1) a (i + 1)), .int (nI i), .ref (l_up ad (i + 1) a 0)]) (c_F_isOn l G d i n hn h8 hlt) (cwV 1 C.1.2.2.2.2 gL_lamps_X11_isOn rfl rfl rfl (by decide +kernel) ⟨Nat.le_of_ble_eq_true rfl, Nat.le_of_ble_eq_true rfl⟩) rfl rfl (Nat.le_of_ble_eq_true rfl) dL_lamps_50 ⟨hc0 (by omega), hs0 (by omega)⟩ ?_
        obtain ⟨b0, b1⟩ := l_bit (d 6 i) (z (30 + i)) (e5 i hlt).2.2.2.1
        suffices hb9 : Lb p l e (x_rm 4 9 64) s m #[Value.ref (x_b G + 0)] below meth c 3 (i + 1 + 1) (n + 7 * i + 7) (MQ below (l_QA G d n 7 (q_r7 z)) #[Value.ref (x_b G + 0)] s 9 64 (x_A G)) (x_A G) (l_PA G d s.heap.size (i + 2) (l_up ad (i + 1) a) (va_up (l_fr G n 7 i ad (q_r7 z)) (i + 1) (.inl (x_c G 0, 7, .inl (upd (upd (upd (fun _ => 0) 0 (z (6 + i))) 1 (z (14 + i))) 2 (z (22 + i))))))) 61 [(2, .int (nI i)), (1, .ref (l_up ad (i + 1) a 0)), (0, .ref (x_b G + 0))] [.int (x_bi (z (30 + i) = 0)), .int 3, .ref (l_up ad (i + 1) a (i + 1)), .ref (l_up ad (i + 1) a (i + 1)), .int (nI i), .ref (l_up ad (i + 1) a 0)] by
          refine l_if_eq C.1 dL_lamps_53 (tgt := 60) (by decide) (fun h => ?_) (fun h => ?_)
          · refine l_iconst C.1 dL_lamps_60 (v := 0) (by decide) ?_
            refine l_top (b0 h).symm ?_
            exact hb9
          · refine l_iconst C.1 dL_lamps_56 (v := 1) (by decide) ?_
            refine l_goto C.1 dL_lamps_57 (tgt := 61) (by decide) ?_
            refine l_top (b1 h).symm ?_
            exact hb9
        refine l_iast C hbs (k := i + 1) (N := 7) (i := 3) (w := (upd (upd (upd (fun _ => 0) 0 (z (6 + i))) 1 (z (14 + i))) 2 (z (22 + i)))) (by omega) (va_up_self _ _ _) rfl (by decide) (by decide) dL_lamps_61 ?_
        refine l_P (P2 := l_PA G d s.heap.size (i + 2) (l_up ad (i + 1) a) (va_up (l_fr G n 7 i ad (q_r7 z)) (i + 1) (.inl (x_c G 0, 7, .inl (upd (upd (upd (upd (fun _ => 0) 0 (z (6 + i))) 1 (z (14 + i))) 2 (z (22 + i))) 3 (x_bi (z (30 + i) = 0))))))) (fun H y => ⟨y.1, y.2.cong (fun k _ => (l_upup _ _ _ _ k).symm) (fun _ _ => rfl)⟩) ?_
        refine l_dup C.1 dL_lamps_62 rfl ?_
        refine l_iconst C.1 dL_lamps_63 (v := 4) (by decide) ?_
        refine l_aload_n C.1 dL_lamps_64 2 rfl ?_
        refine l_iload_n C.1 dL_lamps_65 0 rfl ?_
        refine l_callV C hblk (d2 := d) (As := [.int (nI i)]) (rest := [.int 4, .ref (l_up ad (i + 1) a (i + 1)), .ref (l_up ad (i + 1) a (i + 1)), .int (nI i), .ref (l_up ad (i + 1) a 0)]) (c_F_oilOf l G d i n hn h8 hlt) (cwV 1 C.1.2.2.2.2 gL_lamps_X11_oilOf rfl rfl rfl (by decide +kernel) ⟨Nat.le_of_ble_eq_true rfl, Nat.le_of_ble_eq_true rfl⟩) rfl rfl (Nat.le_of_ble_eq_true rfl) dL_lamps_66 ⟨hc0 (by omega), hs0 (by omega)⟩ ?_
        refine l_top (y := z (38 + i)) (e5 i hlt).2.2.2.2.1 ?_
        refine l_iast C hbs (k := i + 1) (N := 7) (i := 4) (w := (upd (upd (upd (upd (fun _ => 0) 0 (z (6 + i))) 1 (z (14 + i))) 2 (z (22 + i))) 3 (x_bi (z (30 + i) = 0)))) (by omega) (va_up_self _ _ _) rfl (by decide) (by decide) dL_lamps_69 ?_
        refine l_P (P2 := l_PA G d s.heap.size (i + 2) (l_up ad (i + 1) a) (va_up (l_fr G n 7 i ad (q_r7 z)) (i + 1) (.inl (x_c G 0, 7, .inl (upd (upd (upd (upd (upd (fun _ => 0) 0 (z (6 + i))) 1 (z (14 + i))) 2 (z (22 + i))) 3 (x_bi (z (30 + i) = 0))) 4 (z (38 + i))))))) (fun H y => ⟨y.1, y.2.cong (fun k _ => (l_upup _ _ _ _ k).symm) (fun _ _ => rfl)⟩) ?_
        refine l_dup C.1 dL_lamps_70 rfl ?_
        refine l_iconst C.1 dL_lamps_71 (v := 5) (by decide) ?_
        refine l_aload_n C.1 dL_lamps_72 2 rfl ?_
        refine l_iload_n C.1 dL_lamps_73 0 rfl ?_
        refine l_callV C hblk (d2 := d) (As := [.int (nI i)]) (rest := [.int 5, .ref (l_up ad (i + 1) a (i + 1)), .ref (l_up ad (i + 1) a (i + 1)), .int (nI i), .ref (l_up ad (i + 1) a 0)]) (c_F_wickOf l G d i n hn h8 hlt) (cwV 1 C.1.2.2.2.2 gL_lamps_X11_wickOf rfl rfl rfl (by decide +kernel) ⟨Nat.le_of_ble_eq_true rfl, Nat.le_of_ble_eq_true rfl⟩) rfl rfl (Nat.le_of_ble_eq_true rfl) dL_lamps_74 ⟨hc0 (by omega), hs0 (by omega)⟩ ?_
        refine l_top (y := z (46 + i)) (e5 i hlt).2.2.2.2.2.1 ?_
        refine l_iast C hbs (k := i + 1) (N := 7) (i := 5) (w := (upd (upd (upd (upd (upd (fun _ => 0) 0 (z (6 + i))) 1 (z (14 + i))) 2 (z (22 + i))) 3 (x_bi (z (30 + i) = 0))) 4 (z (38 + i)))) (by omega) (va_up_self _ _ _) rfl (by decide) (by decide) dL_lamps_77 ?_
        refine l_P (P2 := l_PA G d s.heap.size (i + 2) (l_up ad (i + 1) a) (va_up (l_fr G n 7 i ad (q_r7 z)) (i + 1) (.inl (x_c G 0, 7, .inl (upd (upd (upd (upd (upd (upd (fun _ => 0) 0 (z (6 + i))) 1 (z (14 + i))) 2 (z (22 + i))) 3 (x_bi (z (30 + i) = 0))) 4 (z (38 + i))) 5 (z (46 + i))))))) (fun H y => ⟨y.1, y.2.cong (fun k _ => (l_upup _ _ _ _ k).symm) (fun _ _ => rfl)⟩) ?_
        refine l_dup C.1 dL_lamps_78 rfl ?_
        refine l_bipush C.1 dL_lamps_79 (v := 6) (by decide) ?_
        refine l_aload_n C.1 dL_lamps_81 2 rfl ?_
        refine l_iload_n C.1 dL_lamps_82 0 rfl ?_
        refine l_callV C hblk (d2 := d) (As := [.int (nI i)]) (rest := [.int 6, .ref (l_up ad (i + 1) a (i + 1)), .ref (l_up ad (i + 1) a (i + 1)), .int (nI i), .ref (l_up ad (i + 1) a 0)]) (c_F_balanceOf l G d i n hn h8 hlt) (cwV 1 C.1.2.2.2.2 gL_lamps_X11_balanceOf rfl rfl rfl (by decide +kernel) ⟨Nat.le_of_ble_eq_true rfl, Nat.le_of_ble_eq_true rfl⟩) rfl rfl (Nat.le_of_ble_eq_true rfl) dL_lamps_83 ⟨hc0 (by omega), hs0 (by omega)⟩ ?_
        refine l_top (y := z (54 + i)) (e5 i hlt).2.2.2.2.2.2 ?_
        refine l_iast C hbs (k := i + 1) (N := 7) (i := 6) (w := (upd (upd (upd (upd (upd (upd (fun _ => 0) 0 (z (6 + i))) 1 (z (14 + i))) 2 (z (22 + i))) 3 (x_bi (z (30 + i) = 0))) 4 (z (38 + i))) 5 (z (46 + i)))) (by omega) (va_up_self _ _ _) rfl (by decide) (by decide) dL_lamps_86 ?_
        refine l_P (P2 := l_PA G d s.heap.size (i + 2) (l_up ad (i + 1) a) (va_up (l_fr G n 7 i ad (q_r7 z)) (i + 1) (.inl (x_c G 0, 7, .inl (upd (upd (upd (upd (upd (upd (upd (fun _ => 0) 0 (z (6 + i))) 1 (z (14 + i))) 2 (z (22 + i))) 3 (x_bi (z (30 + i) = 0))) 4 (z (38 + i))) 5 (z (46 + i))) 6 (z (54 + i))))))) (fun H y => ⟨y.1, y.2.cong (fun k _ => (l_upup _ _ _ _ k).symm) (fun _ _ => rfl)⟩) ?_
        refine l_aast C hbs (k := 0) (k2 := i + 1) (N := n) (i := i) (by omega) ((va_up_ne _ _ (by omega)).trans l_fr_0) (by omega) (va_up_self _ _ _) rfl hlt (by omega) rfl dL_lamps_87 ?_
        refine l_P (P2 := l_PA G d s.heap.size (i + 2) (l_up ad (i + 1) a) (l_fr G n 7 (i + 1) (l_up ad (i + 1) a) (q_r7 z))) (fun H y => ⟨y.1, y.2.cong (fun k hk => by rw [l_fr_next k hk, l_up_at]; rfl) (fun _ _ => rfl)⟩) ?_
        refine l_iinc C.1 dL_lamps_88 0 rfl (v := (nI (i + 1))) (x_inc i) (by decide) (lst2 := [(2, .int (nI (i + 1))), (1, .ref (l_up ad (i + 1) a 0)), (0, .ref (x_b G + 0))]) rfl ?_
        refine l_goto C.1 dL_lamps_91 (tgt := 10) (by decide) ?_
        refine l_sub (lst2 := [(2, .int (nI (i + 1))), (1, .ref (l_up ad (i + 1) a 0)), (0, .ref (x_b G + 0))]) [0, 1, 2] rfl ?_
        refine l_widen (k := i + 1 + 1) (n := n + 7 * (i + 1)) (by omega) (by omega) ?_
        exact ih (i + 1) (l_up ad (i + 1) a) (by omega) (by omega)
  refine l_sub (lst2 := [(2, .int 0), (1, .ref a0), (0, .ref (x_b G + 0))]) [0, 1, 2] rfl ?_
  refine l_P (P2 := l_PA G d s.heap.size 1 (l_up (fun _ => 0) 0 a0) (l_fr G n 7 0 (l_up (fun _ => 0) 0 a0) (q_r7 z))) (fun H y => ⟨y.1, y.2.cong (fun k hk => by
    obtain rfl : k = 0 := by omega
    rw [va_up_self, l_fr_00]) (fun _ _ => rfl)⟩) ?_
  refine l_to (lst2 := [(2, .int (nI 0)), (1, .ref (l_up (fun _ => 0) 0 a0 0)), (0, .ref (x_b G + 0))]) (st2 := []) (by rw [l_up_at]; rfl) rfl ?_
  refine l_widen (k := 0 + 1) (n := n + 7 * 0) (Nat.le_refl _) (by omega) ?_
  exact L10 (n + 1) 0 _ (by omega) (by omega)
set_option maxHeartbeats 4000000 in
set_option maxRecDepth 100000 in
theorem c_L_moths (l : Launch) (G : xG) (d : xd) (z : Nat → Int32) (B n w : Nat) (t : r_T B d 1 z n w) (hA : ∀ q, x_A G q → q < x_b G + 175) : Met l yL_moths wsL_moths (x_rm 4 7 24) (va_Pc [.ref (x_b G + 0)] (x_U G d)) (l_QA G d w 3 (q_r3 z)) 7 24 (x_A G) := by
  obtain ⟨⟨hn, hn2, hw, hw2, e5, e6, e7⟩, ⟨h8, h6, v3, v4, v5⟩, -, -⟩ := id t
  refine Met.ofW (cc := cL_moths) (maxL := 3) (ret := some (.array (.array .int))) (by decide) rfl ?_
  intro p e s m args below meth c s₁ B9 hml hv
  obtain ⟨rfl, hP0, hK⟩ := hv
  have hl0 := lv_entry [Value.ref (x_b G + 0)] (n := 3) (Nat.le_of_ble_eq_true rfl)
  rw [lg_entry_eq]
  have C : Cx G p s m _ c cL_moths wsL_moths RL 3 := ⟨⟨B9.exec, B9.bytes, hml, findClass_of_methodNamed B9.named, atoms_spec (ws := wsL_moths) B9.pre⟩, hK⟩
  have hbs : x_b G + 175 ≤ s.heap.size := l_P_lt hP0
  have hblk : ∀ q, x_A G q → q < s.heap.size := fun q hq => by have := hA q hq; omega
  have hc0 : ∀ {k : Nat}, k ≤ 7 → k + 0 ≤ (x_rm 4 7 24).cells := fun h => h
  have hs0 : ∀ {k : Nat}, k ≤ 24 → k + 0 ≤ (x_rm 4 7 24).slots := fun h => h
  suffices hgo : Lb p l e (x_rm 4 7 24) s m #[Value.ref (x_b G + 0)] below meth c 3 0 0 (MQ below (l_QA G d w 3 (q_r3 z)) #[Value.ref (x_b G + 0)] s 7 24 (x_A G)) (x_A G) (l_PA G d s.heap.size 0 (fun _ => 0) (fun _ => .inl (x_c G 0, 0, .inl (fun _ => 0)))) 0 [(0, .ref (x_b G + 0))] [] from
    hgo s.heap [] _ ⟨hP0, ⟨fun k hk => absurd hk (Nat.not_lt_zero k), fun i j hi => absurd hi (Nat.not_lt_zero i)⟩⟩ va_S.rf hl0
  refine l_aload_n C.1 dL_moths_0 0 rfl ?_
  refine l_callV C hblk (d2 := d) (As := []) (rest := []) (c_F_mothCount l G d) (cwV 0 C.1.2.2.2.2 gL_moths_X11_mothCount rfl rfl rfl (by decide +kernel) ⟨Nat.le_of_ble_eq_true rfl, Nat.le_of_ble_eq_true rfl⟩) rfl rfl (Nat.le_of_ble_eq_true rfl) dL_moths_1 ⟨hc0 (by omega), hs0 (by omega)⟩ ?_
  refine l_top (y := nI w) hw ?_
  refine l_newq C hbs (N := w) (by decide +kernel) (nI_pos (by omega)) (nI_clamp (by omega)) (by omega) (by dsimp only [x_rm]; omega) (by dsimp only [x_rm]; omega) dL_moths_4 (fun a0 => ?_)
  refine l_astore_n C.1 dL_moths_7 (by decide) (lst2 := [(1, .ref a0), (0, .ref (x_b G + 0))]) rfl ?_
  refine l_iconst C.1 dL_moths_8 (v := 0) (by decide) ?_
  refine l_istore_n C.1 dL_moths_9 (by decide) (lst2 := [(2, .int 0), (1, .ref a0), (0, .ref (x_b G + 0))]) rfl ?_
  have L10 : ∀ (j i : Nat) (ad : Nat → Nat), i ≤ w → w < i + j → Lb p l e (x_rm 4 7 24) s m #[Value.ref (x_b G + 0)] below meth c 3 (i + 1) (w + 3 * i) (MQ below (l_QA G d w 3 (q_r3 z)) #[Value.ref (x_b G + 0)] s 7 24 (x_A G)) (x_A G) (l_PA G d s.heap.size (i + 1) ad (l_fr G w 3 i ad (q_r3 z))) 10 [(2, .int (nI i)), (1, .ref (ad 0)), (0, .ref (x_b G + 0))] [] := by
    intro j
    induction j with
    | zero => intro i ad h1 h2; exact absurd h2 (by omega)
    | succ j ih =>
      intro i ad hi hj
      refine l_iload_n C.1 dL_moths_10 0 rfl ?_
      refine l_aload_n C.1 dL_moths_11 1 rfl ?_
      refine l_alenQ C (k := 0) (N := w) (by omega) l_fr_0 (v := nI w) rfl dL_moths_12 ?_
      refine l_icmp_ge C.1 dL_moths_13 (tgt := 52) (by decide) (fun h13 => ?_) (fun h13 => ?_)
      · skip
        have e : i = w := x_ge h13 hi (by omega)
        subst e
        refine l_aload_n C.1 dL_moths_52 1 rfl ?_
        intro H locs ls hP hS hl
        refine W.widen (k := 7) (n := 24) (by omega) (by omega) ?_
        exact W.aret C.1.1 C.1.2.1 B9.returns (Or.inr ⟨_, rfl⟩) (Or.inr ⟨_, rfl⟩) (fun t9 ht _ => ⟨ad, rfl, by rw [ht]; exact hP.1, by rw [ht]; exact hP.2, hS.F ht⟩) hS.2.2 dL_moths_53 B9.notSynchronized
      · skip
        have hlt : i < w := x_nge h13 hi
        refine l_aload_n C.1 dL_moths_16 1 rfl ?_
        refine l_iload_n C.1 dL_moths_17 0 rfl ?_
        refine l_iconst C.1 dL_moths_18 (v := 3) (by decide) ?_
        refine l_newi C hbs (N := 3) (by decide +kernel) (by decide) (by decide) (by decide) (by dsimp only [x_rm]; omega) (by dsimp only [x_rm]; omega) dL_moths_19 (fun a => ?_)
        refine l_P (P2 := l_PA G d s.heap.size (i + 2) (l_up ad (i + 1) a) (va_up (l_fr G w 3 i ad (q_r3 z)) (i + 1) (.inl (x_c G 0, 3, .inl (fun _ => 0))))) (fun H y => y) ?_
        refine l_to (lst2 := [(2, .int (nI i)), (1, .ref (l_up ad (i + 1) a 0)), (0, .ref (x_b G + 0))]) (st2 := [.ref (l_up ad (i + 1) a (i + 1)), .int (nI i), .ref (l_up ad (i + 1) a 0)]) (by rw [l_up_ne _ _ (by omega)]) (by rw [l_up_ne ad (n := i + 1) (k := 0) a (by omega), l_up_at]) ?_
        refine l_dup C.1 dL_moths_21 rfl ?_
        refine l_iconst C.1 dL_moths_22 (v := 0) (by decide) ?_
        refine l_aload_n C.1 dL_moths_23 2 rfl ?_
        refine l_iload_n C.1 dL_moths_24 0 rfl ?_
        refine l_callV C hblk (d2 := d) (As := [.int (nI i)]) (rest := [.int 0, .ref (l_up ad (i + 1) a (i + 1)), .ref (l_up ad (i + 1) a (i + 1)), .int (nI i), .ref (l_up ad (i + 1) a 0)]) (c_F_lampOfMoth l G d i w hw h6 hlt) (cwV 1 C.1.2.2.2.2 gL_moths_X11_lampOfMoth rfl rfl rfl (by decide +kernel) ⟨Nat.le_of_ble_eq_true rfl, Nat.le_of_ble_eq_true rfl⟩) rfl rfl (Nat.le_of_ble_eq_true rfl) dL_moths_25 ⟨hc0 (by omega), hs0 (by omega)⟩ ?_
        refine l_top (y := z (62 + i) - 1) (e6 i hlt).1 ?_
        refine l_iast C hbs (k := i + 1) (N := 3) (i := 0) (w := (fun _ => 0)) (by omega) (va_up_self _ _ _) rfl (by decide) (by decide) dL_moths_28 ?_
        refine l_P (P2 := l_PA G d s.heap.size (i + 2) (l_up ad (i + 1) a) (va_up (l_fr G w 3 i ad (q_r3 z)) (i + 1) (.inl (x_c G 0, 3, .inl (upd (fun _ => 0) 0 (z (62 + i) - 1)))))) (fun H y => ⟨y.1, y.2.cong (fun k _ => (l_upup _ _ _ _ k).symm) (fun _ _ => rfl)⟩) ?_
        refine l_dup C.1 dL_moths_29 rfl ?_
        refine l_iconst C.1 dL_moths_30 (v := 1) (by decide) ?_
        refine l_aload_n C.1 dL_moths_31 2 rfl ?_
        refine l_iload_n C.1 dL_moths_32 0 rfl ?_
        refine l_callV C hblk (d2 := d) (As := [.int (nI i)]) (rest := [.int 1, .ref (l_up ad (i + 1) a (i + 1)), .ref (l_up ad (i + 1) a (i + 1)), .int (nI i), .ref (l_up ad (i + 1) a 0)]) (c_F_strikesOf l G d i w hw h6 hlt) (cwV 1 C.1.2.2.2.2 gL_moths_X11_strikesOf rfl rfl rfl (by decide +kernel) ⟨Nat.le_of_ble_eq_true rfl, Nat.le_of_ble_eq_true rfl⟩) rfl rfl (Nat.le_of_ble_eq_true rfl) dL_moths_33 ⟨hc0 (by omega), hs0 (by omega)⟩ ?_
        refine l_top (y := z (68 + i)) (e6 i hlt).2.1 ?_
        refine l_iast C hbs (k := i + 1) (N := 3) (i := 1) (w := (upd (fun _ => 0) 0 (z (62 + i) - 1))) (by omega) (va_up_self _ _ _) rfl (by decide) (by decide) dL_moths_36 ?_
        refine l_P (P2 := l_PA G d s.heap.size (i + 2) (l_up ad (i + 1) a) (va_up (l_fr G w 3 i ad (q_r3 z)) (i + 1) (.inl (x_c G 0, 3, .inl (upd (upd (fun _ => 0) 0 (z (62 + i) - 1)) 1 (z (68 + i))))))) (fun H y => ⟨y.1, y.2.cong (fun k _ => (l_upup _ _ _ _ k).symm) (fun _ _ => rfl)⟩) ?_
        refine l_dup C.1 dL_moths_37 rfl ?_
        refine l_iconst C.1 dL_moths_38 (v := 2) (by decide) ?_
        refine l_aload_n C.1 dL_moths_39 2 rfl ?_
        refine l_iload_n C.1 dL_moths_40 0 rfl ?_
        refine l_callV C hblk (d2 := d) (As := [.int (nI i)]) (rest := [.int 2, .ref (l_up ad (i + 1) a (i + 1)), .ref (l_up ad (i + 1) a (i + 1)), .int (nI i), .ref (l_up ad (i + 1) a 0)]) (c_F_probationOf l G d i w hw h6 hlt) (cwV 1 C.1.2.2.2.2 gL_moths_X11_probationOf rfl rfl rfl (by decide +kernel) ⟨Nat.le_of_ble_eq_true rfl, Nat.le_of_ble_eq_true rfl⟩) rfl rfl (Nat.le_of_ble_eq_true rfl) dL_moths_41 ⟨hc0 (by omega), hs0 (by omega)⟩ ?_
        refine l_top (y := z (74 + i)) (e6 i hlt).2.2 ?_
        refine l_iast C hbs (k := i + 1) (N := 3) (i := 2) (w := (upd (upd (fun _ => 0) 0 (z (62 + i) - 1)) 1 (z (68 + i)))) (by omega) (va_up_self _ _ _) rfl (by decide) (by decide) dL_moths_44 ?_
        refine l_P (P2 := l_PA G d s.heap.size (i + 2) (l_up ad (i + 1) a) (va_up (l_fr G w 3 i ad (q_r3 z)) (i + 1) (.inl (x_c G 0, 3, .inl (upd (upd (upd (fun _ => 0) 0 (z (62 + i) - 1)) 1 (z (68 + i))) 2 (z (74 + i))))))) (fun H y => ⟨y.1, y.2.cong (fun k _ => (l_upup _ _ _ _ k).symm) (fun _ _ => rfl)⟩) ?_
        refine l_aast C hbs (k := 0) (k2 := i + 1) (N := w) (i := i) (by omega) ((va_up_ne _ _ (by omega)).trans l_fr_0) (by omega) (va_up_self _ _ _) rfl hlt (by omega) rfl dL_moths_45 ?_
        refine l_P (P2 := l_PA G d s.heap.size (i + 2) (l_up ad (i + 1) a) (l_fr G w 3 (i + 1) (l_up ad (i + 1) a) (q_r3 z))) (fun H y => ⟨y.1, y.2.cong (fun k hk => by rw [l_fr_next k hk, l_up_at]; rfl) (fun _ _ => rfl)⟩) ?_
        refine l_iinc C.1 dL_moths_46 0 rfl (v := (nI (i + 1))) (x_inc i) (by decide) (lst2 := [(2, .int (nI (i + 1))), (1, .ref (l_up ad (i + 1) a 0)), (0, .ref (x_b G + 0))]) rfl ?_
        refine l_goto C.1 dL_moths_49 (tgt := 10) (by decide) ?_
        refine l_sub (lst2 := [(2, .int (nI (i + 1))), (1, .ref (l_up ad (i + 1) a 0)), (0, .ref (x_b G + 0))]) [0, 1, 2] rfl ?_
        refine l_widen (k := i + 1 + 1) (n := w + 3 * (i + 1)) (by omega) (by omega) ?_
        exact ih (i + 1) (l_up ad (i + 1) a) (by omega) (by omega)
  refine l_sub (lst2 := [(2, .int 0), (1, .ref a0), (0, .ref (x_b G + 0))]) [0, 1, 2] rfl ?_
  refine l_P (P2 := l_PA G d s.heap.size 1 (l_up (fun _ => 0) 0 a0) (l_fr G w 3 0 (l_up (fun _ => 0) 0 a0) (q_r3 z))) (fun H y => ⟨y.1, y.2.cong (fun k hk => by
    obtain rfl : k = 0 := by omega
    rw [va_up_self, l_fr_00]) (fun _ _ => rfl)⟩) ?_
  refine l_to (lst2 := [(2, .int (nI 0)), (1, .ref (l_up (fun _ => 0) 0 a0 0)), (0, .ref (x_b G + 0))]) (st2 := []) (by rw [l_up_at]; rfl) rfl ?_
  refine l_widen (k := 0 + 1) (n := w + 3 * 0) (Nat.le_refl _) (by omega) ?_
  exact L10 (w + 1) 0 _ (by omega) (by omega)
section LCALLA
variable {p : Program} {l : Launch} {e : Env} {R : Room} {s : State} {m : MethodId} {args : Array Value} {below : List Frame} {meth : Method} {c : Code} {nL cells slots : Nat} {Q : State → Prop} {cc : ByteArray} {Ts : List Cond} {own : String} {pc : Nat} {lst : List (Nat × Value)} {rest : List Value} {G : xG} {d : xd} {n : Nat} {ad : Nat → Nat} {f : nF}
theorem l_callA (C : Cx G p s m args c cc Ts own nL) {y : MethodName} {bytes : ByteArray} {maxL mc ms index lv n2 c2 : Nat} {ret : Option FieldType} {ws : List Cond} {F : Nat → Nat → Int32}
    (hM : Met l y ws (x_rm lv mc ms) (va_Pc [.ref (x_b G + 0)] (x_U G d)) (l_QA G d n2 c2 F) mc ms (x_A G)) (cw : CallB R s args own index y bytes maxL ret ws (x_rm lv mc ms) mc ms 1 ∧ (Cond.static y).before args s = true) {st : List Value} (hst : st = .ref (x_b G + 0) :: rest) (hro : (rest.map fun v => v.category).sum ≤ 8) (hdg : decode cc pc = .ok (.invokestatic index, 3)) (hf : cells + mc ≤ R.cells ∧ slots + ms ≤ R.slots)
    (kk : ∀ ad2 : Nat → Nat, Lb p l e R s m args below meth c nL (cells + mc) (slots + ms) Q (x_A G) (l_PA G d s.heap.size (n2 + 1) ad2 (l_fr G n2 c2 n2 ad2 F)) (pc + 3) lst (.ref (ad2 0) :: rest)) : Lb p l e R s m args below meth c nL cells slots Q (x_A G) (l_PA G d s.heap.size n ad f) pc lst st := by
  intro H locs ls hP hS hl
  subst hst
  have hr := va_runS (locs := locs) (meth := meth) (below := below) (e := e) (As := [.ref (x_b G + 0)]) (rest := rest) (g := F0 m pc ls (.ref (x_b G + 0) :: rest)) C.1 hM cw ⟨x_blind G _ d, x_pre C.2 hP.1 hS⟩ rfl rfl hl.1 rfl (lv_room hro) hdg hf
  intro T hT X
  obtain ⟨v, st₀, t, T', L, h0, X', hL, e1, e2, ⟨ad2, hv, hu, ha, hz, hk⟩, st⟩ := hr T hT X
  cases hv
  rw [h0] at hz hk ha
  obtain ⟨t2, a1, b1⟩ := kk ad2 T'.heap (locs ++ L) ls ⟨by rw [e1]; exact hu, by rw [e1]; exact ⟨fun k hk9 => ⟨Nat.le_trans hS.1 (ha.1 k hk9).1, (ha.1 k hk9).2⟩, ha.2⟩⟩
    ⟨Nat.le_trans hS.1 (by rw [e1]; exact hz), fun q h1 h2 => by rw [e1, hk q (Nat.lt_of_lt_of_le h1 hS.1) h2]; exact hS.2.1 q h1 h2, fun q hq => by
      rcases List.mem_append.mp hq with h | h
      · exact hS.2.2 q h
      · exact hL q h⟩ hl T' rfl X'
  exact ⟨t2, st t2 a1, b1⟩
end LCALLA
set_option maxHeartbeats 4000000 in
set_option maxRecDepth 100000 in
theorem c_L_state (l : Launch) (G : xG) (d : xd) (z : Nat → Int32) (B n w : Nat) (t : r_T B d 1 z n w) (hA : ∀ q, x_A G q → q < x_b G + 175) : x_M G l yL_state wsL_state 5 16 88 [.ref (x_b G + 0)] d (some (.int (q_hash z))) d := by
  obtain ⟨⟨hn, hn2, hw, hw2, e5, e6, e7⟩, ⟨h8, h6, v3, v4, v5⟩, -, -⟩ := id t
  obtain ⟨qn, qw⟩ := q_nw t
  refine Met.ofW (cc := cL_state) (maxL := 10) (ret := some .int) (by decide) rfl ?_
  intro p e s m args below meth c s₁ B9 hml hv
  obtain ⟨rfl, hP0, hK⟩ := hv
  have hl0 := lv_entry [Value.ref (x_b G + 0)] (n := 10) (Nat.le_of_ble_eq_true rfl)
  rw [lg_entry_eq]
  have C : Cx G p s m _ c cL_state wsL_state RL 10 := ⟨⟨B9.exec, B9.bytes, hml, findClass_of_methodNamed B9.named, atoms_spec (ws := wsL_state) B9.pre⟩, hK⟩
  have hbs : x_b G + 175 ≤ s.heap.size := l_P_lt hP0
  have hblk : ∀ q, x_A G q → q < s.heap.size := fun q hq => by have := hA q hq; omega
  suffices hgo : Lb p l e (x_rm 5 16 88) s m #[Value.ref (x_b G + 0)] below meth c 10 0 0 (MQ below (x_Q G (some (.int (q_hash z))) d) #[Value.ref (x_b G + 0)] s 16 88 (x_A G)) (x_A G) (l_PA G d s.heap.size 0 (fun _ => 0) (fun _ => .inl (x_c G 0, 0, .inl (fun _ => 0)))) 0 [(0, .ref (x_b G + 0))] [] from
    hgo s.heap [] _ ⟨hP0, ⟨fun k hk => absurd hk (Nat.not_lt_zero k), fun i j hi => absurd hi (Nat.not_lt_zero i)⟩⟩ va_S.rf hl0
  have hc0 : ∀ {k : Nat}, k ≤ 16 → k + 0 ≤ (x_rm 5 16 88).cells := fun h => h
  have hs0 : ∀ {k : Nat}, k ≤ 88 → k + 0 ≤ (x_rm 5 16 88).slots := fun h => h
  refine l_bipush C.1 dL_state_0 (v := 31) (by decide) ?_
  refine l_bipush C.1 dL_state_2 (v := 31) (by decide) ?_
  refine l_aload_n C.1 dL_state_4 0 rfl ?_
  refine l_callV C hblk (d2 := d) (As := []) (rest := [.int 31, .int 31]) (c_F_nightCount l G d) (cwV 0 C.1.2.2.2.2 gL_state_X11_nightCount rfl rfl rfl (by decide +kernel) ⟨Nat.le_of_ble_eq_true rfl, Nat.le_of_ble_eq_true rfl⟩) rfl rfl (Nat.le_of_ble_eq_true rfl) dL_state_5 ⟨hc0 (by omega), hs0 (by omega)⟩ ?_
  refine l_top (y := z 2) e7.1 ?_
  refine l_imul C.1 dL_state_8 ?_
  refine l_aload_n C.1 dL_state_9 0 rfl ?_
  refine l_callV C hblk (d2 := d) (As := []) (rest := [.int (31 * (z 2)), .int 31]) (c_F_reserve l G d) (cwV 0 C.1.2.2.2.2 gL_state_X11_reserve rfl rfl rfl (by decide +kernel) ⟨Nat.le_of_ble_eq_true rfl, Nat.le_of_ble_eq_true rfl⟩) rfl rfl (Nat.le_of_ble_eq_true rfl) dL_state_10 ⟨hc0 (by omega), hs0 (by omega)⟩ ?_
  refine l_top (y := z 3) e7.2.1 ?_
  refine l_iadd C.1 dL_state_13 ?_
  refine l_imul C.1 dL_state_14 ?_
  refine l_bipush C.1 dL_state_15 (v := 31) (by decide) ?_
  refine l_aload_n C.1 dL_state_17 0 rfl ?_
  refine l_callV C hblk (d2 := d) (As := []) (rest := [.int 31, .int (31 * ((31 * (z 2)) + (z 3)))]) (c_F_pool l G d) (cwV 0 C.1.2.2.2.2 gL_state_X11_pool rfl rfl rfl (by decide +kernel) ⟨Nat.le_of_ble_eq_true rfl, Nat.le_of_ble_eq_true rfl⟩) rfl rfl (Nat.le_of_ble_eq_true rfl) dL_state_18 ⟨hc0 (by omega), hs0 (by omega)⟩ ?_
  refine l_top (y := z 4) e7.2.2.1 ?_
  refine l_imul C.1 dL_state_21 ?_
  refine l_iadd C.1 dL_state_22 ?_
  refine l_aload_n C.1 dL_state_23 0 rfl ?_
  refine l_callV C hblk (d2 := d) (As := []) (rest := [.int ((31 * ((31 * (z 2)) + (z 3))) + (31 * (z 4)))]) (c_F_treasury l G d) (cwV 0 C.1.2.2.2.2 gL_state_X11_treasury rfl rfl rfl (by decide +kernel) ⟨Nat.le_of_ble_eq_true rfl, Nat.le_of_ble_eq_true rfl⟩) rfl rfl (Nat.le_of_ble_eq_true rfl) dL_state_24 ⟨hc0 (by omega), hs0 (by omega)⟩ ?_
  refine l_top (y := z 5) e7.2.2.2 ?_
  refine l_iadd C.1 dL_state_27 ?_
  refine l_istore_n C.1 dL_state_28 (by decide) (lst2 := [(1, .int (((31 * ((31 * (z 2)) + (z 3))) + (31 * (z 4))) + (z 5))), (0, .ref (x_b G + 0))]) rfl ?_
  refine l_aload_n C.1 dL_state_29 1 rfl ?_
  refine l_callA C (rest := []) (c_L_lamps l G d z B _ _ t hA) (va_cwS 1 C.1.2.2.2.2 gL_state_L_lamps rfl rfl rfl (by decide +kernel) ⟨Nat.le_of_ble_eq_true rfl, Nat.le_of_ble_eq_true rfl⟩) rfl (Nat.le_of_ble_eq_true rfl) dL_state_30 ⟨Nat.le_of_ble_eq_true rfl, Nat.le_of_ble_eq_true rfl⟩ (fun adlamps => ?_)
  refine l_astore_n C.1 dL_state_33 (by decide) (lst2 := [(2, .ref (adlamps 0)), (1, .int (((31 * ((31 * (z 2)) + (z 3))) + (31 * (z 4))) + (z 5))), (0, .ref (x_b G + 0))]) rfl ?_
  refine l_aload_n C.1 dL_state_34 0 rfl ?_
  refine l_alenQ C (k := 0) (N := n) (by omega) l_fr_0 (v := nI n) rfl dL_state_35 ?_
  refine l_istore_n C.1 dL_state_36 (by decide) (lst2 := [(3, .int (nI n)), (2, .ref (adlamps 0)), (1, .int (((31 * ((31 * (z 2)) + (z 3))) + (31 * (z 4))) + (z 5))), (0, .ref (x_b G + 0))]) rfl ?_
  refine l_iconst C.1 dL_state_37 (v := 0) (by decide) ?_
  refine l_istore C.1 dL_state_38 (by decide) (lst2 := [(4, .int 0), (3, .int (nI n)), (2, .ref (adlamps 0)), (1, .int (((31 * ((31 * (z 2)) + (z 3))) + (31 * (z 4))) + (z 5))), (0, .ref (x_b G + 0))]) rfl ?_
  have LO40 : ∀ (j i : Nat), i ≤ n → n < i + j → Lb p l e (x_rm 5 16 88) s m #[Value.ref (x_b G + 0)] below meth c 10 (0 + 9) (0 + 64) (MQ below (x_Q G (some (.int (q_hash z))) d) #[Value.ref (x_b G + 0)] s 16 88 (x_A G)) (x_A G) (l_PA G d s.heap.size (n + 1) adlamps (l_fr G n 7 n adlamps (q_r7 z))) 40 [(4, .int (nI i)), (1, .int (q_f2 (31 * (31 * z 2 + z 3) + 31 * z 4 + z 5) (q_r7 z) 7 i)), (2, .ref (adlamps 0)), (3, .int (nI n)), (0, .ref (x_b G + 0))] [] := by
    intro j
    induction j with
    | zero => intro i h1 h2; exact absurd h2 (by omega)
    | succ j ih =>
      intro i hi hj
      refine l_iload C.1 dL_state_40 0 rfl ?_
      refine l_iload_n C.1 dL_state_42 3 rfl ?_
      refine l_icmp_ge C.1 dL_state_43 (tgt := 98) (by decide) (fun h43 => ?_) (fun h43 => ?_)
      · skip
        have e : i = n := x_ge h43 hi (by omega)
        subst e
        refine l_sub (lst2 := [(1, .int (q_f2 (31 * (31 * z 2 + z 3) + 31 * z 4 + z 5) (q_r7 z) 7 i)), (0, .ref (x_b G + 0))]) [1, 4] rfl ?_
        generalize hv1 : q_f2 (31 * (31 * z 2 + z 3) + 31 * z 4 + z 5) (q_r7 z) 7 i = v1
        refine l_aload_n C.1 dL_state_98 1 rfl ?_
        refine l_callA C (rest := []) (c_L_moths l G d z B _ _ t hA) (va_cwS 1 C.1.2.2.2.2 gL_state_L_moths rfl rfl rfl (by decide +kernel) ⟨Nat.le_of_ble_eq_true rfl, Nat.le_of_ble_eq_true rfl⟩) rfl (Nat.le_of_ble_eq_true rfl) dL_state_99 ⟨Nat.le_of_ble_eq_true rfl, Nat.le_of_ble_eq_true rfl⟩ (fun admoths => ?_)
        refine l_astore_n C.1 dL_state_102 (by decide) (lst2 := [(2, .ref (admoths 0)), (1, .int v1), (0, .ref (x_b G + 0))]) rfl ?_
        refine l_aload_n C.1 dL_state_103 0 rfl ?_
        refine l_alenQ C (k := 0) (N := w) (by omega) l_fr_0 (v := nI w) rfl dL_state_104 ?_
        refine l_istore_n C.1 dL_state_105 (by decide) (lst2 := [(3, .int (nI w)), (2, .ref (admoths 0)), (1, .int v1), (0, .ref (x_b G + 0))]) rfl ?_
        refine l_iconst C.1 dL_state_106 (v := 0) (by decide) ?_
        refine l_istore C.1 dL_state_107 (by decide) (lst2 := [(4, .int 0), (3, .int (nI w)), (2, .ref (admoths 0)), (1, .int v1), (0, .ref (x_b G + 0))]) rfl ?_
        have LO109 : ∀ (j i : Nat), i ≤ w → w < i + j → Lb p l e (x_rm 5 16 88) s m #[Value.ref (x_b G + 0)] below meth c 10 (0 + 9 + 7) (0 + 64 + 24) (MQ below (x_Q G (some (.int (q_hash z))) d) #[Value.ref (x_b G + 0)] s 16 88 (x_A G)) (x_A G) (l_PA G d s.heap.size (w + 1) admoths (l_fr G w 3 w admoths (q_r3 z))) 109 [(4, .int (nI i)), (1, .int (q_f2 (v1) (q_r3 z) 3 i)), (2, .ref (admoths 0)), (3, .int (nI w)), (0, .ref (x_b G + 0))] [] := by
          intro j
          induction j with
          | zero => intro i h1 h2; exact absurd h2 (by omega)
          | succ j ih =>
            intro i hi hj
            refine l_iload C.1 dL_state_109 0 rfl ?_
            refine l_iload_n C.1 dL_state_111 3 rfl ?_
            refine l_icmp_ge C.1 dL_state_112 (tgt := 167) (by decide) (fun h112 => ?_) (fun h112 => ?_)
            · skip
              have e : i = w := x_ge h112 hi (by omega)
              subst e
              refine l_bipush C.1 dL_state_167 (v := 31) (by decide) ?_
              refine l_iload_n C.1 dL_state_169 1 rfl ?_
              refine l_imul C.1 dL_state_170 ?_
              refine l_aload_n C.1 dL_state_171 4 rfl ?_
              refine l_callV C hblk (d2 := d) (As := []) (rest := [.int (31 * (q_f2 (v1) (q_r3 z) 3 i))]) (c_F_lampCount l G d) (cwV 0 C.1.2.2.2.2 gL_state_X11_lampCount rfl rfl rfl (by decide +kernel) ⟨Nat.le_of_ble_eq_true rfl, Nat.le_of_ble_eq_true rfl⟩) rfl rfl (Nat.le_of_ble_eq_true rfl) dL_state_172 ⟨hc0 (by omega), hs0 (by omega)⟩ ?_
              refine l_top (y := z 0) (hn.trans hn2.symm) ?_
              refine l_iadd C.1 dL_state_175 ?_
              intro H locs ls hP hS hl
              refine W.widen (k := 16) (n := 88) (by omega) (by omega) ?_
              have hh : (31 * (q_f2 (v1) (q_r3 z) 3 i)) + (z 0) = q_hash z := by
                unfold q_hash
                rw [qn, qw, hv1]
              rw [hh]
              exact W.iret C.1.1 C.1.2.1 B9.returns (x_end hP.1 hS) hS.2.2 dL_state_176 B9.notSynchronized
            · skip
              have hlt : i < w := x_nge h112 hi
              refine l_aload_n C.1 dL_state_115 2 rfl ?_
              refine l_iload C.1 dL_state_116 0 rfl ?_
              refine l_aald C (k := 0) (N := w) (i := i) (a := admoths (i + 1)) (by omega) l_fr_0 rfl hlt (by omega) (if_pos hlt) dL_state_118 ?_
              refine l_astore C.1 dL_state_119 (by decide) (lst2 := [(5, .ref (admoths (i + 1))), (4, .int (nI i)), (1, .int (q_f2 (v1) (q_r3 z) 3 i)), (2, .ref (admoths 0)), (3, .int (nI w)), (0, .ref (x_b G + 0))]) rfl ?_
              refine l_aload C.1 dL_state_121 0 rfl ?_
              refine l_astore C.1 dL_state_123 (by decide) (lst2 := [(6, .ref (admoths (i + 1))), (5, .ref (admoths (i + 1))), (4, .int (nI i)), (1, .int (q_f2 (v1) (q_r3 z) 3 i)), (2, .ref (admoths 0)), (3, .int (nI w)), (0, .ref (x_b G + 0))]) rfl ?_
              refine l_aload C.1 dL_state_125 0 rfl ?_
              refine l_alenI C (k := i + 1) (N := 3) (by omega) l_fr_s (v := nI 3) rfl dL_state_127 ?_
              refine l_istore C.1 dL_state_128 (by decide) (lst2 := [(7, .int (nI 3)), (6, .ref (admoths (i + 1))), (5, .ref (admoths (i + 1))), (4, .int (nI i)), (1, .int (q_f2 (v1) (q_r3 z) 3 i)), (2, .ref (admoths 0)), (3, .int (nI w)), (0, .ref (x_b G + 0))]) rfl ?_
              refine l_iconst C.1 dL_state_130 (v := 0) (by decide) ?_
              refine l_istore C.1 dL_state_131 (by decide) (lst2 := [(8, .int 0), (7, .int (nI 3)), (6, .ref (admoths (i + 1))), (5, .ref (admoths (i + 1))), (4, .int (nI i)), (1, .int (q_f2 (v1) (q_r3 z) 3 i)), (2, .ref (admoths 0)), (3, .int (nI w)), (0, .ref (x_b G + 0))]) rfl ?_
              have LI133 : ∀ (j2 k : Nat), k ≤ 3 → 3 < k + j2 → Lb p l e (x_rm 5 16 88) s m #[Value.ref (x_b G + 0)] below meth c 10 (0 + 9 + 7) (0 + 64 + 24) (MQ below (x_Q G (some (.int (q_hash z))) d) #[Value.ref (x_b G + 0)] s 16 88 (x_A G)) (x_A G) (l_PA G d s.heap.size (w + 1) admoths (l_fr G w 3 w admoths (q_r3 z))) 133 [(8, .int (nI k)), (7, .int (nI 3)), (6, .ref (admoths (i + 1))), (1, .int (q_f1 (q_f2 (v1) (q_r3 z) 3 i) ((q_r3 z) i) k)), (4, .int (nI i)), (2, .ref (admoths 0)), (3, .int (nI w)), (0, .ref (x_b G + 0))] [] := by
                intro j2
                induction j2 with
                | zero => intro k h1 h2; exact absurd h2 (by omega)
                | succ j2 ih2 =>
                  intro k hk hj2
                  refine l_iload C.1 dL_state_133 0 rfl ?_
                  refine l_iload C.1 dL_state_135 1 rfl ?_
                  refine l_icmp_ge C.1 dL_state_137 (tgt := 161) (by decide) (fun h137 => ?_) (fun h137 => ?_)
                  · skip
                    have e2 : k = 3 := x_ge h137 hk (by omega)
                    subst e2
                    refine l_iinc C.1 dL_state_161 4 rfl (v := (nI (i + 1))) (x_inc i) (by decide) (lst2 := [(4, .int (nI (i + 1))), (8, .int (nI 3)), (7, .int (nI 3)), (6, .ref (admoths (i + 1))), (1, .int (q_f1 (q_f2 (v1) (q_r3 z) 3 i) ((q_r3 z) i) 3)), (2, .ref (admoths 0)), (3, .int (nI w)), (0, .ref (x_b G + 0))]) rfl ?_
                    refine l_goto C.1 dL_state_164 (tgt := 109) (by decide) ?_
                    refine l_sub (lst2 := [(4, .int (nI (i + 1))), (1, .int (q_f1 (q_f2 (v1) (q_r3 z) 3 i) ((q_r3 z) i) 3)), (2, .ref (admoths 0)), (3, .int (nI w)), (0, .ref (x_b G + 0))]) [0, 4, 5, 6, 7] rfl ?_
                    exact ih (i + 1) (by omega) (by omega)
                  · skip
                    have hlt2 : k < 3 := x_nge h137 hk
                    refine l_aload C.1 dL_state_140 2 rfl ?_
                    refine l_iload C.1 dL_state_142 0 rfl ?_
                    refine l_iald C (k := i + 1) (N := 3) (i := k) (by omega) l_fr_s rfl hlt2 (by omega) dL_state_144 ?_
                    refine l_istore C.1 dL_state_145 (by decide) (lst2 := [(9, .int ((q_r3 z) i k)), (8, .int (nI k)), (7, .int (nI 3)), (6, .ref (admoths (i + 1))), (1, .int (q_f1 (q_f2 (v1) (q_r3 z) 3 i) ((q_r3 z) i) k)), (4, .int (nI i)), (2, .ref (admoths 0)), (3, .int (nI w)), (0, .ref (x_b G + 0))]) rfl ?_
                    refine l_bipush C.1 dL_state_147 (v := 31) (by decide) ?_
                    refine l_iload_n C.1 dL_state_149 4 rfl ?_
                    refine l_imul C.1 dL_state_150 ?_
                    refine l_iload C.1 dL_state_151 0 rfl ?_
                    refine l_iadd C.1 dL_state_153 ?_
                    refine l_istore_n C.1 dL_state_154 (by decide) (lst2 := [(1, .int ((31 * (q_f1 (q_f2 (v1) (q_r3 z) 3 i) ((q_r3 z) i) k)) + ((q_r3 z) i k))), (9, .int ((q_r3 z) i k)), (8, .int (nI k)), (7, .int (nI 3)), (6, .ref (admoths (i + 1))), (4, .int (nI i)), (2, .ref (admoths 0)), (3, .int (nI w)), (0, .ref (x_b G + 0))]) rfl ?_
                    refine l_iinc C.1 dL_state_155 2 rfl (v := (nI (k + 1))) (x_inc k) (by decide) (lst2 := [(8, .int (nI (k + 1))), (1, .int ((31 * (q_f1 (q_f2 (v1) (q_r3 z) 3 i) ((q_r3 z) i) k)) + ((q_r3 z) i k))), (9, .int ((q_r3 z) i k)), (7, .int (nI 3)), (6, .ref (admoths (i + 1))), (4, .int (nI i)), (2, .ref (admoths 0)), (3, .int (nI w)), (0, .ref (x_b G + 0))]) rfl ?_
                    refine l_goto C.1 dL_state_158 (tgt := 133) (by decide) ?_
                    refine l_sub (lst2 := [(8, .int (nI (k + 1))), (7, .int (nI 3)), (6, .ref (admoths (i + 1))), (1, .int ((31 * (q_f1 (q_f2 (v1) (q_r3 z) 3 i) ((q_r3 z) i) k)) + ((q_r3 z) i k))), (4, .int (nI i)), (2, .ref (admoths 0)), (3, .int (nI w)), (0, .ref (x_b G + 0))]) [0, 3, 4, 1, 5, 6, 7, 8] rfl ?_
                    exact ih2 (k + 1) (by omega) (by omega)
              refine l_sub (lst2 := [(8, .int 0), (7, .int (nI 3)), (6, .ref (admoths (i + 1))), (1, .int (q_f2 (v1) (q_r3 z) 3 i)), (4, .int (nI i)), (2, .ref (admoths 0)), (3, .int (nI w)), (0, .ref (x_b G + 0))]) [0, 1, 2, 5, 4, 6, 7, 8] rfl ?_
              exact LI133 4 0 (by omega) (by omega)
        refine l_sub (lst2 := [(4, .int 0), (1, .int v1), (2, .ref (admoths 0)), (3, .int (nI w)), (0, .ref (x_b G + 0))]) [0, 3, 2, 1, 4] rfl ?_
        exact LO109 (w + 1) 0 (by omega) (by omega)
      · skip
        have hlt : i < n := x_nge h43 hi
        refine l_aload_n C.1 dL_state_46 2 rfl ?_
        refine l_iload C.1 dL_state_47 0 rfl ?_
        refine l_aald C (k := 0) (N := n) (i := i) (a := adlamps (i + 1)) (by omega) l_fr_0 rfl hlt (by omega) (if_pos hlt) dL_state_49 ?_
        refine l_astore C.1 dL_state_50 (by decide) (lst2 := [(5, .ref (adlamps (i + 1))), (4, .int (nI i)), (1, .int (q_f2 (31 * (31 * z 2 + z 3) + 31 * z 4 + z 5) (q_r7 z) 7 i)), (2, .ref (adlamps 0)), (3, .int (nI n)), (0, .ref (x_b G + 0))]) rfl ?_
        refine l_aload C.1 dL_state_52 0 rfl ?_
        refine l_astore C.1 dL_state_54 (by decide) (lst2 := [(6, .ref (adlamps (i + 1))), (5, .ref (adlamps (i + 1))), (4, .int (nI i)), (1, .int (q_f2 (31 * (31 * z 2 + z 3) + 31 * z 4 + z 5) (q_r7 z) 7 i)), (2, .ref (adlamps 0)), (3, .int (nI n)), (0, .ref (x_b G + 0))]) rfl ?_
        refine l_aload C.1 dL_state_56 0 rfl ?_
        refine l_alenI C (k := i + 1) (N := 7) (by omega) l_fr_s (v := nI 7) rfl dL_state_58 ?_
        refine l_istore C.1 dL_state_59 (by decide) (lst2 := [(7, .int (nI 7)), (6, .ref (adlamps (i + 1))), (5, .ref (adlamps (i + 1))), (4, .int (nI i)), (1, .int (q_f2 (31 * (31 * z 2 + z 3) + 31 * z 4 + z 5) (q_r7 z) 7 i)), (2, .ref (adlamps 0)), (3, .int (nI n)), (0, .ref (x_b G + 0))]) rfl ?_
        refine l_iconst C.1 dL_state_61 (v := 0) (by decide) ?_
        refine l_istore C.1 dL_state_62 (by decide) (lst2 := [(8, .int 0), (7, .int (nI 7)), (6, .ref (adlamps (i + 1))), (5, .ref (adlamps (i + 1))), (4, .int (nI i)), (1, .int (q_f2 (31 * (31 * z 2 + z 3) + 31 * z 4 + z 5) (q_r7 z) 7 i)), (2, .ref (adlamps 0)), (3, .int (nI n)), (0, .ref (x_b G + 0))]) rfl ?_
        have LI64 : ∀ (j2 k : Nat), k ≤ 7 → 7 < k + j2 → Lb p l e (x_rm 5 16 88) s m #[Value.ref (x_b G + 0)] below meth c 10 (0 + 9) (0 + 64) (MQ below (x_Q G (some (.int (q_hash z))) d) #[Value.ref (x_b G + 0)] s 16 88 (x_A G)) (x_A G) (l_PA G d s.heap.size (n + 1) adlamps (l_fr G n 7 n adlamps (q_r7 z))) 64 [(8, .int (nI k)), (7, .int (nI 7)), (6, .ref (adlamps (i + 1))), (1, .int (q_f1 (q_f2 (31 * (31 * z 2 + z 3) + 31 * z 4 + z 5) (q_r7 z) 7 i) ((q_r7 z) i) k)), (4, .int (nI i)), (2, .ref (adlamps 0)), (3, .int (nI n)), (0, .ref (x_b G + 0))] [] := by
          intro j2
          induction j2 with
          | zero => intro k h1 h2; exact absurd h2 (by omega)
          | succ j2 ih2 =>
            intro k hk hj2
            refine l_iload C.1 dL_state_64 0 rfl ?_
            refine l_iload C.1 dL_state_66 1 rfl ?_
            refine l_icmp_ge C.1 dL_state_68 (tgt := 92) (by decide) (fun h68 => ?_) (fun h68 => ?_)
            · skip
              have e2 : k = 7 := x_ge h68 hk (by omega)
              subst e2
              refine l_iinc C.1 dL_state_92 4 rfl (v := (nI (i + 1))) (x_inc i) (by decide) (lst2 := [(4, .int (nI (i + 1))), (8, .int (nI 7)), (7, .int (nI 7)), (6, .ref (adlamps (i + 1))), (1, .int (q_f1 (q_f2 (31 * (31 * z 2 + z 3) + 31 * z 4 + z 5) (q_r7 z) 7 i) ((q_r7 z) i) 7)), (2, .ref (adlamps 0)), (3, .int (nI n)), (0, .ref (x_b G + 0))]) rfl ?_
              refine l_goto C.1 dL_state_95 (tgt := 40) (by decide) ?_
              refine l_sub (lst2 := [(4, .int (nI (i + 1))), (1, .int (q_f1 (q_f2 (31 * (31 * z 2 + z 3) + 31 * z 4 + z 5) (q_r7 z) 7 i) ((q_r7 z) i) 7)), (2, .ref (adlamps 0)), (3, .int (nI n)), (0, .ref (x_b G + 0))]) [0, 4, 5, 6, 7] rfl ?_
              exact ih (i + 1) (by omega) (by omega)
            · skip
              have hlt2 : k < 7 := x_nge h68 hk
              refine l_aload C.1 dL_state_71 2 rfl ?_
              refine l_iload C.1 dL_state_73 0 rfl ?_
              refine l_iald C (k := i + 1) (N := 7) (i := k) (by omega) l_fr_s rfl hlt2 (by omega) dL_state_75 ?_
              refine l_istore C.1 dL_state_76 (by decide) (lst2 := [(9, .int ((q_r7 z) i k)), (8, .int (nI k)), (7, .int (nI 7)), (6, .ref (adlamps (i + 1))), (1, .int (q_f1 (q_f2 (31 * (31 * z 2 + z 3) + 31 * z 4 + z 5) (q_r7 z) 7 i) ((q_r7 z) i) k)), (4, .int (nI i)), (2, .ref (adlamps 0)), (3, .int (nI n)), (0, .ref (x_b G + 0))]) rfl ?_
              refine l_bipush C.1 dL_state_78 (v := 31) (by decide) ?_
              refine l_iload_n C.1 dL_state_80 4 rfl ?_
              refine l_imul C.1 dL_state_81 ?_
              refine l_iload C.1 dL_state_82 0 rfl ?_
              refine l_iadd C.1 dL_state_84 ?_
              refine l_istore_n C.1 dL_state_85 (by decide) (lst2 := [(1, .int ((31 * (q_f1 (q_f2 (31 * (31 * z 2 + z 3) + 31 * z 4 + z 5) (q_r7 z) 7 i) ((q_r7 z) i) k)) + ((q_r7 z) i k))), (9, .int ((q_r7 z) i k)), (8, .int (nI k)), (7, .int (nI 7)), (6, .ref (adlamps (i + 1))), (4, .int (nI i)), (2, .ref (adlamps 0)), (3, .int (nI n)), (0, .ref (x_b G + 0))]) rfl ?_
              refine l_iinc C.1 dL_state_86 2 rfl (v := (nI (k + 1))) (x_inc k) (by decide) (lst2 := [(8, .int (nI (k + 1))), (1, .int ((31 * (q_f1 (q_f2 (31 * (31 * z 2 + z 3) + 31 * z 4 + z 5) (q_r7 z) 7 i) ((q_r7 z) i) k)) + ((q_r7 z) i k))), (9, .int ((q_r7 z) i k)), (7, .int (nI 7)), (6, .ref (adlamps (i + 1))), (4, .int (nI i)), (2, .ref (adlamps 0)), (3, .int (nI n)), (0, .ref (x_b G + 0))]) rfl ?_
              refine l_goto C.1 dL_state_89 (tgt := 64) (by decide) ?_
              refine l_sub (lst2 := [(8, .int (nI (k + 1))), (7, .int (nI 7)), (6, .ref (adlamps (i + 1))), (1, .int ((31 * (q_f1 (q_f2 (31 * (31 * z 2 + z 3) + 31 * z 4 + z 5) (q_r7 z) 7 i) ((q_r7 z) i) k)) + ((q_r7 z) i k))), (4, .int (nI i)), (2, .ref (adlamps 0)), (3, .int (nI n)), (0, .ref (x_b G + 0))]) [0, 3, 4, 1, 5, 6, 7, 8] rfl ?_
              exact ih2 (k + 1) (by omega) (by omega)
        refine l_sub (lst2 := [(8, .int 0), (7, .int (nI 7)), (6, .ref (adlamps (i + 1))), (1, .int (q_f2 (31 * (31 * z 2 + z 3) + 31 * z 4 + z 5) (q_r7 z) 7 i)), (4, .int (nI i)), (2, .ref (adlamps 0)), (3, .int (nI n)), (0, .ref (x_b G + 0))]) [0, 1, 2, 5, 4, 6, 7, 8] rfl ?_
        exact LI64 8 0 (by omega) (by omega)
  refine l_sub (lst2 := [(4, .int 0), (1, .int (((31 * ((31 * (z 2)) + (z 3))) + (31 * (z 4))) + (z 5))), (2, .ref (adlamps 0)), (3, .int (nI n)), (0, .ref (x_b G + 0))]) [0, 3, 2, 1, 4] rfl ?_
  exact LO40 (n + 1) 0 (by omega) (by omega)
