/-! THE LAW: commands and calls, malformed texts -/
def zn (z : Nat → Int32) (i : Nat) : Nat → Int32 := if i = 0 then z else if i = 1 then (o_burnNight z).2.2 else if i = 2 then (o_deliverOil (o_burnNight z).2.2 (nI 33)).2.2 else (o_burnNight (o_deliverOil (o_burnNight z).2.2 (nI 33)).2.2).2.2
theorem x_I_up {B B2 : Nat} {d : xd} {z zv : Nat → Int32} {hs : List (Nat → Int32)} (h : x_I B d z hs zv) (hB : B ≤ B2) : x_I B2 d z hs zv := ⟨q_R_up h.1 hB, ⟨h.2.1.1, r_S_up h.2.1.2 hB⟩, h.2.2⟩
theorem zn_n {B : Nat} {d : xd} {z : Nat → Int32} {hs : List (Nat → Int32)} (h : q_R B d z hs) (hB : B + 180 < 100000) : (o_burnNight z).2.2 0 = z 0 := by
  obtain ⟨⟨n, w, t⟩, -⟩ := id h
  obtain ⟨qn, qw⟩ := q_nw t
  obtain ⟨⟨w2, tn⟩, -⟩ := t_night t (by omega) (by omega)
  show g_ngt z (q_n z) (q_w z) 0 = z 0
  rw [qn, qw]
  exact tn.1.2.1.trans t.1.2.1.symm
theorem cn_ge (b : Nat → Bool) : ∀ n, ∃ k, k ≤ n ∧ g_cn b n = nI k
  | 0 => ⟨0, Nat.le_refl 0, rfl⟩
  | n + 1 => by
    obtain ⟨k, hk, e⟩ := cn_ge b n
    unfold g_cn
    by_cases hb : b n = true
    · rw [if_pos hb, e]
      exact ⟨k + 1, by omega, nI_1 k⟩
    · rw [if_neg hb]
      exact ⟨k, by omega, e⟩
theorem bn_ge {B : Nat} {d : xd} {z : Nat → Int32} {hs : List (Nat → Int32)} (h : q_R B d z hs) : ¬ (o_burnNight z).2.1 < 0 := by
  obtain ⟨⟨n, w, t⟩, -⟩ := id h
  obtain ⟨qn, qw⟩ := q_nw t
  obtain ⟨k, hk, e⟩ := cn_ge (g_rdy z) (q_n z)
  have h8 := t.2.1.1
  show ¬ g_cn (g_rdy z) (q_n z) < 0
  rw [e]
  exact nI_pos (by omega)
theorem do_ge {B : Nat} {d : xd} {z : Nat → Int32} {hs : List (Nat → Int32)} (h : q_R B d z hs) (h1 : ¬ q_n z = 0) : (o_deliverOil z (nI 33)).1 = none ∧ ¬ (o_deliverOil z (nI 33)).2.1 < 0 := by
  obtain ⟨⟨n, w, t⟩, -⟩ := id h
  obtain ⟨qn, qw⟩ := q_nw t
  obtain ⟨⟨hn, hn2, hw, hw2, e5, e6, e7⟩, ⟨h8, h6, v3, v4, v5⟩, -, -⟩ := id t
  obtain ⟨s1, s2, s3⟩ := q_shf t
  have hn1 : 1 ≤ n := by omega
  have hs : ∀ k, k ≤ n → ∃ a, a ≤ 60 * k ∧ f_sum (g_add z (q_por z (q_i (nI 33)))) k = nI a := by
    intro k
    induction k with
    | zero => intro _; exact ⟨0, Nat.le_refl 0, rfl⟩
    | succ k ih =>
      intro hk
      obtain ⟨a, ha, e⟩ := ih (by omega)
      obtain ⟨o, o1, ho⟩ := (v3 k (by omega)).2.2.2.1
      have ho : d 7 k = nI o := ho
      have ho2 : z (38 + k) = nI o := (e5 k (by omega)).2.2.2.2.1.symm.trans ho
      have hp : q_por z (q_i (nI 33)) k < 100000 := by
        unfold q_por
        rw [qn]
        have h9 := s_por_le (a0 := q_i (nI 33)) h8 s2 (s3 hn1) (i := k) (by omega)
        have h33 : q_i (nI 33) = 33 := by decide +kernel
        omega
      have e2 := g_add_is ho2 o1 hp
      refine ⟨a + min (q_por z (q_i (nI 33)) k) (60 - o), by omega, ?_⟩
      rw [f_sum, e, e2, nI_add]
  have e : o_deliverOil z (nI 33) = (none, f_sum (g_add z (q_por z (q_i (nI 33)))) (q_n z), g_dl z (q_por z (q_i (nI 33))) (q_n z)) := by
    unfold o_deliverOil
    rw [if_neg (by decide), if_neg h1]
  rw [e]
  obtain ⟨a, ha, e9⟩ := hs n (Nat.le_refl n)
  refine ⟨rfl, ?_⟩
  show ¬ f_sum (g_add z (q_por z (q_i (nI 33)))) (q_n z) < 0
  rw [qn, e9]
  exact nI_pos (by omega)
theorem b_blind (av : List Value) (F : xF) (sz sb L : Nat) (xs : Nat → Int32) : FrameBlind (va_Pc av (b_U F sz sb L xs)) := by
  intro a U g mk q
  obtain ⟨q0, q1, q2, ⟨q3, q4, q5⟩, q6⟩ := q
  exact ⟨q0, q1, va_X.moved (u := U) (U := U.calling g mk a) (Vm.Alike.refl U.vm) q2, ⟨va_K.moved (u := U) (U := U.calling g mk a) (Vm.Alike.refl U.vm) q3, q4, x_E.at (u := U) (U := U.calling g mk a) (H := U.heap) (State.WarmedH.refl U) (fun _ _ _ => rfl) q5⟩, n_N.warm (s := U) (U := U.calling g mk a) (State.WarmedH.refl U) q6⟩
section LX
variable {l : Launch} {F : xF} {p : Program} {e : Env} {s : State} {m : MethodId} {args : Array Value} {below : List Frame} {meth : Method} {c : Code} {Q : State → Prop} {bx by9 bz sb b : Nat} {dx dy dz : xd} {now many cc : Int32} {hs hsy : List (Nat → Int32)} {z zv : Nat → Int32} {B : Nat}
theorem m_build (C : Mx F p s m args c cL_law wsL_law RL 9) (hfl : l.stackTraces = false) {L : Nat} {xs : Nat → Int32} (hX : va_X sb L xs s s.heap) (hL : L < 1000) {Wo : List (Nat × xd)} {cells slots pc : Nat} {lst : List (Nat × Value)} (hf : cells + 400 ≤ room_1.cells ∧ slots + 2700 ≤ room_1.slots) (hdg : decode cL_law pc = .ok (.invokestatic 157, 3))
    (kk : ∀ (b : Nat) (d : xd), q_R 38000 d (b_m L xs 12).1 (b_m L xs 12).2 → q_k x_d0 d → Lb p l e room_1 s m args below meth c 9 (cells + 400) (slots + 2700) Q (w_A s) (m_P F s.heap.size ((b, d) :: Wo)) (pc + 3) lst [.ref b]) : Lb p l e room_1 s m args below meth c 9 cells slots Q (w_A s) (m_P F s.heap.size Wo) pc lst [.ref sb] := by
  intro H locs ls hP hS hl
  have hb := hX.lt
  have hr := va_runS (locs := locs) (meth := meth) (below := below) (e := e) (cells := cells) (slots := slots) (As := [.ref sb]) (rest := []) (g := F0 m pc ls [.ref sb]) C.1 (c_L_build l hfl F H.size sb L xs hL) (va_cwS 1 C.1.2.2.2.2 gL_law_L_build rfl rfl rfl (by decide +kernel) ⟨Nat.le_of_ble_eq_true rfl, Nat.le_of_ble_eq_true rfl⟩) ⟨b_blind _ _ _ _ _ _, fun U hU hW => ⟨rfl, by rw [hU], (by
    have h9 : va_X sb L xs U H := (hX.kept (hS.2.1 sb hb (fun y => by have h9 : s.heap.size ≤ sb := y; omega))).moved hW.alike
    rw [hU]
    exact h9), fl_at C.2 hW hS hU⟩⟩ rfl rfl hl.1 rfl (lv_room (Nat.le_of_ble_eq_true rfl)) hdg hf
  intro T hT X
  obtain ⟨v, st₀, t, T', L9, h0, X', hL9, e1, e2, ⟨b, d, hv, hb9, hu, ⟨hq, hk9⟩, hz, hk⟩, st⟩ := hr T hT X
  cases hv
  rw [h0] at hz hk
  have hkq : ∀ q, q < H.size → T'.heap[q]? = H[q]? := fun q hq => by rw [e1]; exact hk q hq (fun y => by have h9 : H.size ≤ q := y; omega)
  obtain ⟨t2, a1, b1⟩ := kk b d hq hk9 T'.heap (locs ++ L9) ls ⟨⟨Nat.le_trans hS.1 hb9, by rw [e1]; exact hu, fun u hu2 => Or.inl (Nat.le_trans (hP.lt u hu2).2 hb9)⟩, hP.kept (fun u hu2 q q1 q2 => hkq q (by have := (hP.lt u hu2).2; omega))⟩
    ⟨Nat.le_trans hS.1 (by rw [e1]; exact hz), fun q h1 h2 => (hkq q (by have := hS.1; omega)).trans (hS.2.1 q h1 h2), fun q hq => by
      rcases List.mem_append.mp hq with h | h
      · exact hS.2.2 q h
      · exact Nat.le_trans hS.1 (hL9 q h)⟩ hl T' rfl X'
  exact ⟨t2, st t2 a1, b1⟩
set_option maxHeartbeats 2000000 in
theorem x_9 (C : Mx F p s m args c cL_law wsL_law RL 9) (hfl : l.stackTraces = false) (h : q_R B dx z hs) (hn : q_N B dx zv) (hnow : now = q_hash zv) (hmany : many = zv 0)
    (K : ∀ d : xd, Lb p l e room_1 s m args below meth c 9 (1410 + 0 + 16) (8200 + 0 + 88) Q (w_A s) (m_P F s.heap.size [(bx, d)]) 1213 [(4, .int now), (3, .int many), (1, .ref bx), (0, .ref sb)] [.int 1]) : Lb p l e room_1 s m args below meth c 9 1410 8200 Q (w_A s) (m_P F s.heap.size [(bx, dx)]) 1191 [(4, .int now), (3, .int many), (1, .ref bx), (0, .ref sb)] [] := by
  refine l_aload_n C.1 dL_law_1191 2 rfl ?_
  obtain ⟨d9, hm9, hq⟩ := q_restore (l := l) h hn
  refine m_callV C (b := bx) (As := []) (rest := []) (hm9 (w_B F bx)) (cwV 0 C.1.2.2.2.2 gL_law_X11_restore rfl rfl rfl (by decide +kernel) ⟨Nat.le_of_ble_eq_true rfl, Nat.le_of_ble_eq_true rfl⟩) rfl rfl (Nat.le_of_ble_eq_true rfl) dL_law_1192 ⟨Nat.le_of_ble_eq_true rfl, Nat.le_of_ble_eq_true rfl⟩ ?_
  refine l_top (y := many) hmany.symm ?_
  refine l_iload_n C.1 dL_law_1195 1 rfl ?_
  refine l_icmp_ne C.1 dL_law_1196 (tgt := 1212) (by decide) (fun h => absurd rfl h) (fun h1196 => ?_)
  refine l_aload_n C.1 dL_law_1199 2 rfl ?_
  obtain ⟨⟨n75, w75, t75⟩, -⟩ := id (hq)
  refine m_callS C (As := [.ref bx]) (rest := []) (c_L_state l (w_B F bx) _ _ _ n75 w75 t75 (fun _ h => h.2)) (va_cwS 1 C.1.2.2.2.2 gL_law_L_state rfl rfl rfl (by decide +kernel) ⟨Nat.le_of_ble_eq_true rfl, Nat.le_of_ble_eq_true rfl⟩) rfl rfl (Nat.le_of_ble_eq_true rfl) dL_law_1200 ⟨Nat.le_of_ble_eq_true rfl, Nat.le_of_ble_eq_true rfl⟩ ?_
  refine l_top (y := now) hnow.symm ?_
  refine l_iload C.1 dL_law_1203 0 rfl ?_
  refine l_icmp_ne C.1 dL_law_1205 (tgt := 1212) (by decide) (fun h => absurd rfl h) (fun h1205 => ?_)
  refine l_iconst C.1 dL_law_1208 (v := 1) (by decide) ?_
  refine l_goto C.1 dL_law_1209 (tgt := 1213) (by decide) ?_
  exact K _
theorem zn_14 {l : Launch} (z : Nat → Int32) : ∀ i, i < 1 → ∃ o : q_O, q_cmd l (tp_vb (tw 14) (x_wL 14) (tp_P (tw 14) (x_wL 14) i)) (tp_v1 (tw 14) (x_wL 14) (tp_P (tw 14) (x_wL 14) i)) (tp_v2 (tw 14) (x_wL 14) (tp_P (tw 14) (x_wL 14) i)) (zn z i) o ∧ o.1 = none ∧ o.2.2 = zn z (i + 1) := by
  intro i hi
  obtain rfl : i = 0 := by omega
  rw [tx_14c0.1, tx_14c0.2.1, tx_14c0.2.2]
  exact ⟨_, q_k10, rfl, rfl⟩
theorem zn_13 {l : Launch} (z : Nat → Int32) : ∀ i, i < 1 → ∃ o : q_O, q_cmd l (tp_vb (tw 13) (x_wL 13) (tp_P (tw 13) (x_wL 13) i)) (tp_v1 (tw 13) (x_wL 13) (tp_P (tw 13) (x_wL 13) i)) (tp_v2 (tw 13) (x_wL 13) (tp_P (tw 13) (x_wL 13) i)) (zn z i) o ∧ o.1 = none ∧ o.2.2 = zn z (i + 1) := by
  intro i hi
  obtain rfl : i = 0 := by omega
  rw [tx_13c0.1, tx_13c0.2.1, tx_13c0.2.2]
  exact ⟨_, q_k10, rfl, rfl⟩
theorem zn_13y {l : Launch} (z : Nat → Int32) (h1 : (o_deliverOil (o_burnNight z).2.2 (nI 33)).1 = none) : ∀ i, i < 2 + 1 → ∃ o : q_O, q_cmd l (tp_vb (tw 13) (x_wL 13) (tp_P (tw 13) (x_wL 13) i)) (tp_v1 (tw 13) (x_wL 13) (tp_P (tw 13) (x_wL 13) i)) (tp_v2 (tw 13) (x_wL 13) (tp_P (tw 13) (x_wL 13) i)) (zn z i) o ∧ o.1 = none ∧ o.2.2 = zn z (i + 1) := by
  intro i hi
  rcases (show i = 0 ∨ i = 1 ∨ i = 2 by omega) with rfl | rfl | rfl
  · rw [tx_13c0.1, tx_13c0.2.1, tx_13c0.2.2]
    exact ⟨_, q_k10, rfl, rfl⟩
  · rw [tx_13c1.1, tx_13c1.2.1, tx_13c1.2.2]
    exact ⟨_, q_k2 (by decide) (by decide), h1, rfl⟩
  · rw [tx_13c2.1, tx_13c2.2.1, tx_13c2.2.2]
    exact ⟨_, q_k10, rfl, rfl⟩
set_option maxHeartbeats 2000000 in
theorem x_2 (C : Mx F p s m args c cL_law wsL_law RL 9) (hfl : l.stackTraces = false) (hI : x_I 39000 dx zv hs zv) (hnow : now = q_hash zv) (hZ : ∀ q ∈ x_lt, vk_R "LampCooperativeLaw" q.1 q.2.1 (F.2.2 2 q.2.2) s)
    (K : ∀ d : xd, x_I 39000 d zv hs zv → Lb p l e room_1 s m args below meth c 9 1100 6500 Q (w_A s) (m_P F s.heap.size [(bx, d)]) 348 [(4, .int now), (3, .int many), (1, .ref bx), (0, .ref sb)] []) : Lb p l e room_1 s m args below meth c 9 1000 6000 Q (w_A s) (m_P F s.heap.size [(bx, dx)]) 151 [(4, .int now), (3, .int many), (1, .ref bx), (0, .ref sb)] [] := by
  refine l_aload_n C.1 dL_law_151 2 rfl ?_
  refine l_ldc C.1 (a := F.2.2 2 14) (hZ _ (List.mem_of_getElem? (i := 1) rfl)) dL_law_152 ?_
  refine m_callS C (As := [.ref bx, .ref (F.2.2 2 14)]) (rest := []) (c_L_put l (w_B F bx) _ 14 (by decide) hI.2.2) (va_cwS 2 C.1.2.2.2.2 gL_law_L_put rfl rfl rfl (by decide +kernel) ⟨Nat.le_of_ble_eq_true rfl, Nat.le_of_ble_eq_true rfl⟩) rfl rfl (Nat.le_of_ble_eq_true rfl) dL_law_154 ⟨Nat.le_of_ble_eq_true rfl, Nat.le_of_ble_eq_true rfl⟩ ?_
  refine l_aload_n C.1 dL_law_157 2 rfl ?_
  obtain ⟨d76, hm76, hI, h12⟩ := xt_bad (v := 14) (k9 := 1) (f9 := 1) hfl hI (by omega) (by decide) (by decide) tx_14a tx_14b.1 tx_14b.2 (by decide) (zn zv) rfl (zn_14 zv) (by rw [tx_14c1.1, tx_14c1.2.1, tx_14c1.2.2]; exact ⟨_, q_k9, fun y => by cases y⟩)
  refine m_callH C (As := [.ref bx]) (rest := []) (hm76 (w_B F bx)) (vx_cwSW 1 C.1.2.2.2.2 gL_law_L_runs rfl rfl rfl (by decide +kernel) ⟨Nat.le_of_ble_eq_true rfl, Nat.le_of_ble_eq_true rfl⟩) rfl rfl (Nat.le_of_ble_eq_true rfl) dL_law_158 ⟨Nat.le_of_ble_eq_true rfl, Nat.le_of_ble_eq_true rfl⟩ ?_
  refine l_bipush C.1 dL_law_161 (v := (-2)) (by decide) ?_
  refine l_icmp_ne C.1 dL_law_163 (tgt := 183) (by decide) (fun h => absurd rfl h) (fun h163 => ?_)
  refine l_aload_n C.1 dL_law_166 2 rfl ?_
  refine m_callV C (b := bx) (As := []) (rest := []) (c_F_failedCommand l (w_B F bx) _ (by rw [h12]; decide)) (cwV 0 C.1.2.2.2.2 gL_law_X11_failedCommand rfl rfl rfl (by decide +kernel) ⟨Nat.le_of_ble_eq_true rfl, Nat.le_of_ble_eq_true rfl⟩) rfl rfl (Nat.le_of_ble_eq_true rfl) dL_law_167 ⟨Nat.le_of_ble_eq_true rfl, Nat.le_of_ble_eq_true rfl⟩ ?_
  refine l_top (y := 1) h12 ?_
  refine l_iconst C.1 dL_law_170 (v := 1) (by decide) ?_
  refine l_icmp_ne C.1 dL_law_171 (tgt := 183) (by decide) (fun h => absurd rfl h) (fun h171 => ?_)
  refine l_aload_n C.1 dL_law_174 2 rfl ?_
  obtain ⟨⟨n77, w77, t77⟩, -⟩ := id (hI.1)
  refine m_callS C (As := [.ref bx]) (rest := []) (c_L_state l (w_B F bx) _ _ _ n77 w77 t77 (fun _ h => h.2)) (va_cwS 1 C.1.2.2.2.2 gL_law_L_state rfl rfl rfl (by decide +kernel) ⟨Nat.le_of_ble_eq_true rfl, Nat.le_of_ble_eq_true rfl⟩) rfl rfl (Nat.le_of_ble_eq_true rfl) dL_law_175 ⟨Nat.le_of_ble_eq_true rfl, Nat.le_of_ble_eq_true rfl⟩ ?_
  refine l_top (y := now) hnow.symm ?_
  refine l_iload C.1 dL_law_178 0 rfl ?_
  refine l_icmp_eq C.1 dL_law_180 (tgt := 185) (by decide) (fun h180 => ?_) (fun h => absurd rfl h)
  refine l_aload_n C.1 dL_law_185 2 rfl ?_
  refine l_ldc C.1 (a := F.2.2 2 15) (hZ _ (List.mem_of_getElem? (i := 2) rfl)) dL_law_186 ?_
  refine m_callS C (As := [.ref bx, .ref (F.2.2 2 15)]) (rest := []) (c_L_put l (w_B F bx) _ 15 (by decide) hI.2.2) (va_cwS 2 C.1.2.2.2.2 gL_law_L_put rfl rfl rfl (by decide +kernel) ⟨Nat.le_of_ble_eq_true rfl, Nat.le_of_ble_eq_true rfl⟩) rfl rfl (Nat.le_of_ble_eq_true rfl) dL_law_188 ⟨Nat.le_of_ble_eq_true rfl, Nat.le_of_ble_eq_true rfl⟩ ?_
  refine l_aload_n C.1 dL_law_191 2 rfl ?_
  obtain ⟨d78, hm78, hI, h12⟩ := xt_bad (v := 15) (k9 := 0) (f9 := 0) hfl hI (by omega) (by decide) (by decide) tx_15a tx_15b.1 tx_15b.2 (by decide) (fun _ => zv) rfl (fun i hi => absurd hi (Nat.not_lt_zero i)) (by rw [tx_15c0.1, tx_15c0.2.1, tx_15c0.2.2]; exact ⟨_, q_k6, fun y => by cases y⟩)
  refine m_callH C (As := [.ref bx]) (rest := []) (hm78 (w_B F bx)) (vx_cwSW 1 C.1.2.2.2.2 gL_law_L_runs rfl rfl rfl (by decide +kernel) ⟨Nat.le_of_ble_eq_true rfl, Nat.le_of_ble_eq_true rfl⟩) rfl rfl (Nat.le_of_ble_eq_true rfl) dL_law_192 ⟨Nat.le_of_ble_eq_true rfl, Nat.le_of_ble_eq_true rfl⟩ ?_
  refine l_bipush C.1 dL_law_195 (v := (-2)) (by decide) ?_
  refine l_icmp_ne C.1 dL_law_197 (tgt := 216) (by decide) (fun h => absurd rfl h) (fun h197 => ?_)
  refine l_aload_n C.1 dL_law_200 2 rfl ?_
  refine m_callV C (b := bx) (As := []) (rest := []) (c_F_failedCommand l (w_B F bx) _ (by rw [h12]; decide)) (cwV 0 C.1.2.2.2.2 gL_law_X11_failedCommand rfl rfl rfl (by decide +kernel) ⟨Nat.le_of_ble_eq_true rfl, Nat.le_of_ble_eq_true rfl⟩) rfl rfl (Nat.le_of_ble_eq_true rfl) dL_law_201 ⟨Nat.le_of_ble_eq_true rfl, Nat.le_of_ble_eq_true rfl⟩ ?_
  refine l_top (y := 0) h12 ?_
  refine l_if_ne C.1 dL_law_204 (tgt := 216) (by decide) (fun h => absurd h (by decide)) (fun h204 => ?_)
  refine l_aload_n C.1 dL_law_207 2 rfl ?_
  obtain ⟨⟨n79, w79, t79⟩, -⟩ := id (hI.1)
  refine m_callS C (As := [.ref bx]) (rest := []) (c_L_state l (w_B F bx) _ _ _ n79 w79 t79 (fun _ h => h.2)) (va_cwS 1 C.1.2.2.2.2 gL_law_L_state rfl rfl rfl (by decide +kernel) ⟨Nat.le_of_ble_eq_true rfl, Nat.le_of_ble_eq_true rfl⟩) rfl rfl (Nat.le_of_ble_eq_true rfl) dL_law_208 ⟨Nat.le_of_ble_eq_true rfl, Nat.le_of_ble_eq_true rfl⟩ ?_
  refine l_top (y := now) hnow.symm ?_
  refine l_iload C.1 dL_law_211 0 rfl ?_
  refine l_icmp_eq C.1 dL_law_213 (tgt := 218) (by decide) (fun h213 => ?_) (fun h => absurd rfl h)
  refine l_aload_n C.1 dL_law_218 2 rfl ?_
  refine l_ldc C.1 (a := F.2.2 2 16) (hZ _ (List.mem_of_getElem? (i := 3) rfl)) dL_law_219 ?_
  refine l_iconst C.1 dL_law_221 (v := 1) (by decide) ?_
  obtain ⟨d80, hm80, hI, h12b⟩ := xt_err1 (v := 16) (e9 := 1) (k9 := 0) hfl hI (by decide) (by decide) (by decide) tx_16a tx_16b.1 tx_16b.2
  have h12 := h12b.trans h12
  refine m_callS C (As := [.ref bx, .ref (F.2.2 2 16), .int 1]) (rest := []) (hm80 (w_B F bx)) (va_cwS 3 C.1.2.2.2.2 gL_law_L_fails rfl rfl rfl (by decide +kernel) ⟨Nat.le_of_ble_eq_true rfl, Nat.le_of_ble_eq_true rfl⟩) rfl rfl (Nat.le_of_ble_eq_true rfl) dL_law_222 ⟨Nat.le_of_ble_eq_true rfl, Nat.le_of_ble_eq_true rfl⟩ ?_
  refine l_if_eq C.1 dL_law_225 (tgt := 346) (by decide) (fun h => absurd h (by decide)) (fun h225 => ?_)
  refine l_aload_n C.1 dL_law_228 2 rfl ?_
  refine l_ldc C.1 (a := F.2.2 2 2) (hZ _ (List.mem_of_getElem? (i := 14) rfl)) dL_law_229 ?_
  refine l_iconst C.1 dL_law_231 (v := 3) (by decide) ?_
  obtain ⟨d81, hm81, hI, h12b⟩ := xt_err1 (v := 2) (e9 := 3) (k9 := 0) hfl hI (by decide) (by decide) (by decide) tx_2a tx_2b.1 tx_2b.2
  have h12 := h12b.trans h12
  refine m_callS C (As := [.ref bx, .ref (F.2.2 2 2), .int 3]) (rest := []) (hm81 (w_B F bx)) (va_cwS 3 C.1.2.2.2.2 gL_law_L_fails rfl rfl rfl (by decide +kernel) ⟨Nat.le_of_ble_eq_true rfl, Nat.le_of_ble_eq_true rfl⟩) rfl rfl (Nat.le_of_ble_eq_true rfl) dL_law_232 ⟨Nat.le_of_ble_eq_true rfl, Nat.le_of_ble_eq_true rfl⟩ ?_
  refine l_if_eq C.1 dL_law_235 (tgt := 346) (by decide) (fun h => absurd h (by decide)) (fun h235 => ?_)
  refine l_aload_n C.1 dL_law_238 2 rfl ?_
  refine l_ldc C.1 (a := F.2.2 2 17) (hZ _ (List.mem_of_getElem? (i := 4) rfl)) dL_law_239 ?_
  refine l_bipush C.1 dL_law_241 (v := 7) (by decide) ?_
  obtain ⟨d82, hm82, hI, h12b⟩ := xt_err2 (v := 17) (e9 := 7) (k9 := 0) hfl hI (by decide) (by decide) (by decide) tx_17a tx_17b.1.1 tx_17b.1.2.1 tx_17b.1.2.2 tx_17b.2
  have h12 := h12b.trans h12
  refine m_callS C (As := [.ref bx, .ref (F.2.2 2 17), .int 7]) (rest := []) (hm82 (w_B F bx)) (va_cwS 3 C.1.2.2.2.2 gL_law_L_fails rfl rfl rfl (by decide +kernel) ⟨Nat.le_of_ble_eq_true rfl, Nat.le_of_ble_eq_true rfl⟩) rfl rfl (Nat.le_of_ble_eq_true rfl) dL_law_243 ⟨Nat.le_of_ble_eq_true rfl, Nat.le_of_ble_eq_true rfl⟩ ?_
  refine l_if_eq C.1 dL_law_246 (tgt := 346) (by decide) (fun h => absurd h (by decide)) (fun h246 => ?_)
  refine l_aload_n C.1 dL_law_249 2 rfl ?_
  refine l_ldc C.1 (a := F.2.2 2 18) (hZ _ (List.mem_of_getElem? (i := 5) rfl)) dL_law_250 ?_
  refine l_iconst C.1 dL_law_252 (v := 1) (by decide) ?_
  obtain ⟨d83, hm83, hI, h12b⟩ := xt_err1 (v := 18) (e9 := 1) (k9 := 0) hfl hI (by decide) (by decide) (by decide) tx_18a tx_18b.1 tx_18b.2
  have h12 := h12b.trans h12
  refine m_callS C (As := [.ref bx, .ref (F.2.2 2 18), .int 1]) (rest := []) (hm83 (w_B F bx)) (va_cwS 3 C.1.2.2.2.2 gL_law_L_fails rfl rfl rfl (by decide +kernel) ⟨Nat.le_of_ble_eq_true rfl, Nat.le_of_ble_eq_true rfl⟩) rfl rfl (Nat.le_of_ble_eq_true rfl) dL_law_253 ⟨Nat.le_of_ble_eq_true rfl, Nat.le_of_ble_eq_true rfl⟩ ?_
  refine l_if_eq C.1 dL_law_256 (tgt := 346) (by decide) (fun h => absurd h (by decide)) (fun h256 => ?_)
  refine l_aload_n C.1 dL_law_259 2 rfl ?_
  refine l_ldc C.1 (a := F.2.2 2 19) (hZ _ (List.mem_of_getElem? (i := 6) rfl)) dL_law_260 ?_
  refine l_bipush C.1 dL_law_262 (v := 6) (by decide) ?_
  obtain ⟨d84, hm84, hI, h12b⟩ := xt_err1 (v := 19) (e9 := 6) (k9 := 0) hfl hI (by decide) (by decide) (by decide) tx_19a tx_19b.1 tx_19b.2
  have h12 := h12b.trans h12
  refine m_callS C (As := [.ref bx, .ref (F.2.2 2 19), .int 6]) (rest := []) (hm84 (w_B F bx)) (va_cwS 3 C.1.2.2.2.2 gL_law_L_fails rfl rfl rfl (by decide +kernel) ⟨Nat.le_of_ble_eq_true rfl, Nat.le_of_ble_eq_true rfl⟩) rfl rfl (Nat.le_of_ble_eq_true rfl) dL_law_264 ⟨Nat.le_of_ble_eq_true rfl, Nat.le_of_ble_eq_true rfl⟩ ?_
  refine l_if_eq C.1 dL_law_267 (tgt := 346) (by decide) (fun h => absurd h (by decide)) (fun h267 => ?_)
  refine l_aload_n C.1 dL_law_270 2 rfl ?_
  refine l_ldc C.1 (a := F.2.2 2 20) (hZ _ (List.mem_of_getElem? (i := 7) rfl)) dL_law_271 ?_
  refine l_iconst C.1 dL_law_273 (v := 5) (by decide) ?_
  obtain ⟨d85, hm85, hI, h12b⟩ := xt_err2 (v := 20) (e9 := 5) (k9 := 0) hfl hI (by decide) (by decide) (by decide) tx_20a tx_20b.1.1 tx_20b.1.2.1 tx_20b.1.2.2 tx_20b.2
  have h12 := h12b.trans h12
  refine m_callS C (As := [.ref bx, .ref (F.2.2 2 20), .int 5]) (rest := []) (hm85 (w_B F bx)) (va_cwS 3 C.1.2.2.2.2 gL_law_L_fails rfl rfl rfl (by decide +kernel) ⟨Nat.le_of_ble_eq_true rfl, Nat.le_of_ble_eq_true rfl⟩) rfl rfl (Nat.le_of_ble_eq_true rfl) dL_law_274 ⟨Nat.le_of_ble_eq_true rfl, Nat.le_of_ble_eq_true rfl⟩ ?_
  refine l_if_eq C.1 dL_law_277 (tgt := 346) (by decide) (fun h => absurd h (by decide)) (fun h277 => ?_)
  refine l_aload_n C.1 dL_law_280 2 rfl ?_
  refine l_ldc C.1 (a := F.2.2 2 21) (hZ _ (List.mem_of_getElem? (i := 8) rfl)) dL_law_281 ?_
  refine l_iconst C.1 dL_law_283 (v := 0) (by decide) ?_
  obtain ⟨d86, hm86, hI, h12b⟩ := xt_err1 (v := 21) (e9 := 0) (k9 := 0) hfl hI (by decide) (by decide) (by decide) tx_21a tx_21b.1 tx_21b.2
  have h12 := h12b.trans h12
  refine m_callS C (As := [.ref bx, .ref (F.2.2 2 21), .int 0]) (rest := []) (hm86 (w_B F bx)) (va_cwS 3 C.1.2.2.2.2 gL_law_L_fails rfl rfl rfl (by decide +kernel) ⟨Nat.le_of_ble_eq_true rfl, Nat.le_of_ble_eq_true rfl⟩) rfl rfl (Nat.le_of_ble_eq_true rfl) dL_law_284 ⟨Nat.le_of_ble_eq_true rfl, Nat.le_of_ble_eq_true rfl⟩ ?_
  refine l_if_eq C.1 dL_law_287 (tgt := 346) (by decide) (fun h => absurd h (by decide)) (fun h287 => ?_)
  refine l_aload_n C.1 dL_law_290 2 rfl ?_
  refine l_ldc C.1 (a := F.2.2 2 22) (hZ _ (List.mem_of_getElem? (i := 9) rfl)) dL_law_291 ?_
  refine l_iconst C.1 dL_law_293 (v := 4) (by decide) ?_
  obtain ⟨d87, hm87, hI, h12b⟩ := xt_err1 (v := 22) (e9 := 4) (k9 := 1) hfl hI (by decide) (by decide) (by decide) tx_22a tx_22b.1 tx_22b.2
  have h12 := h12b.trans h12
  refine m_callS C (As := [.ref bx, .ref (F.2.2 2 22), .int 4]) (rest := []) (hm87 (w_B F bx)) (va_cwS 3 C.1.2.2.2.2 gL_law_L_fails rfl rfl rfl (by decide +kernel) ⟨Nat.le_of_ble_eq_true rfl, Nat.le_of_ble_eq_true rfl⟩) rfl rfl (Nat.le_of_ble_eq_true rfl) dL_law_294 ⟨Nat.le_of_ble_eq_true rfl, Nat.le_of_ble_eq_true rfl⟩ ?_
  refine l_if_eq C.1 dL_law_297 (tgt := 346) (by decide) (fun h => absurd h (by decide)) (fun h297 => ?_)
  refine l_aload_n C.1 dL_law_300 2 rfl ?_
  refine l_ldc C.1 (a := F.2.2 2 23) (hZ _ (List.mem_of_getElem? (i := 10) rfl)) dL_law_301 ?_
  refine l_iconst C.1 dL_law_303 (v := 5) (by decide) ?_
  obtain ⟨d88, hm88, hI, h12b⟩ := xt_err1 (v := 23) (e9 := 5) (k9 := 0) hfl hI (by decide) (by decide) (by decide) tx_23a tx_23b.1 tx_23b.2
  have h12 := h12b.trans h12
  refine m_callS C (As := [.ref bx, .ref (F.2.2 2 23), .int 5]) (rest := []) (hm88 (w_B F bx)) (va_cwS 3 C.1.2.2.2.2 gL_law_L_fails rfl rfl rfl (by decide +kernel) ⟨Nat.le_of_ble_eq_true rfl, Nat.le_of_ble_eq_true rfl⟩) rfl rfl (Nat.le_of_ble_eq_true rfl) dL_law_304 ⟨Nat.le_of_ble_eq_true rfl, Nat.le_of_ble_eq_true rfl⟩ ?_
  refine l_if_eq C.1 dL_law_307 (tgt := 346) (by decide) (fun h => absurd h (by decide)) (fun h307 => ?_)
  refine l_aload_n C.1 dL_law_310 2 rfl ?_
  refine l_ldc C.1 (a := F.2.2 2 24) (hZ _ (List.mem_of_getElem? (i := 11) rfl)) dL_law_311 ?_
  refine l_iconst C.1 dL_law_313 (v := 4) (by decide) ?_
  obtain ⟨d89, hm89, hI, h12b⟩ := xt_err1 (v := 24) (e9 := 4) (k9 := 0) hfl hI (by decide) (by decide) (by decide) tx_24a tx_24b.1 tx_24b.2
  have h12 := h12b.trans h12
  refine m_callS C (As := [.ref bx, .ref (F.2.2 2 24), .int 4]) (rest := []) (hm89 (w_B F bx)) (va_cwS 3 C.1.2.2.2.2 gL_law_L_fails rfl rfl rfl (by decide +kernel) ⟨Nat.le_of_ble_eq_true rfl, Nat.le_of_ble_eq_true rfl⟩) rfl rfl (Nat.le_of_ble_eq_true rfl) dL_law_314 ⟨Nat.le_of_ble_eq_true rfl, Nat.le_of_ble_eq_true rfl⟩ ?_
  refine l_if_eq C.1 dL_law_317 (tgt := 346) (by decide) (fun h => absurd h (by decide)) (fun h317 => ?_)
  refine l_aload_n C.1 dL_law_320 2 rfl ?_
  refine l_ldc C.1 (a := F.2.2 2 25) (hZ _ (List.mem_of_getElem? (i := 12) rfl)) dL_law_321 ?_
  refine l_iconst C.1 dL_law_323 (v := 0) (by decide) ?_
  obtain ⟨d90, hm90, hI, h12b⟩ := xt_err1 (v := 25) (e9 := 0) (k9 := 0) hfl hI (by decide) (by decide) (by decide) tx_25a tx_25b.1 tx_25b.2
  have h12 := h12b.trans h12
  refine m_callS C (As := [.ref bx, .ref (F.2.2 2 25), .int 0]) (rest := []) (hm90 (w_B F bx)) (va_cwS 3 C.1.2.2.2.2 gL_law_L_fails rfl rfl rfl (by decide +kernel) ⟨Nat.le_of_ble_eq_true rfl, Nat.le_of_ble_eq_true rfl⟩) rfl rfl (Nat.le_of_ble_eq_true rfl) dL_law_324 ⟨Nat.le_of_ble_eq_true rfl, Nat.le_of_ble_eq_true rfl⟩ ?_
  refine l_if_eq C.1 dL_law_327 (tgt := 346) (by decide) (fun h => absurd h (by decide)) (fun h327 => ?_)
  refine l_aload_n C.1 dL_law_330 2 rfl ?_
  refine m_callV C (b := bx) (As := []) (rest := []) (c_F_failedCommand l (w_B F bx) _ (by rw [h12]; decide)) (cwV 0 C.1.2.2.2.2 gL_law_X11_failedCommand rfl rfl rfl (by decide +kernel) ⟨Nat.le_of_ble_eq_true rfl, Nat.le_of_ble_eq_true rfl⟩) rfl rfl (Nat.le_of_ble_eq_true rfl) dL_law_331 ⟨Nat.le_of_ble_eq_true rfl, Nat.le_of_ble_eq_true rfl⟩ ?_
  refine l_top (y := 0) h12 ?_
  refine l_if_ne C.1 dL_law_334 (tgt := 346) (by decide) (fun h => absurd h (by decide)) (fun h334 => ?_)
  refine l_aload_n C.1 dL_law_337 2 rfl ?_
  obtain ⟨⟨n91, w91, t91⟩, -⟩ := id (hI.1)
  refine m_callS C (As := [.ref bx]) (rest := []) (c_L_state l (w_B F bx) _ _ _ n91 w91 t91 (fun _ h => h.2)) (va_cwS 1 C.1.2.2.2.2 gL_law_L_state rfl rfl rfl (by decide +kernel) ⟨Nat.le_of_ble_eq_true rfl, Nat.le_of_ble_eq_true rfl⟩) rfl rfl (Nat.le_of_ble_eq_true rfl) dL_law_338 ⟨Nat.le_of_ble_eq_true rfl, Nat.le_of_ble_eq_true rfl⟩ ?_
  refine l_top (y := now) hnow.symm ?_
  refine l_iload C.1 dL_law_341 0 rfl ?_
  refine l_icmp_eq C.1 dL_law_343 (tgt := 348) (by decide) (fun h343 => ?_) (fun h => absurd rfl h)
  refine l_widen (k := 1100) (n := 6500) (Nat.le_of_ble_eq_true rfl) (Nat.le_of_ble_eq_true rfl) ?_
  exact K _ hI
set_option maxHeartbeats 2000000 in
theorem x_1n (C : Mx F p s m args c cL_law wsL_law RL 9) (hfl : l.stackTraces = false) (hI : x_I 38000 dx zv hs zv) (h0 : q_n zv = 0) (hnow : now = q_hash zv)
    (K : ∀ d : xd, x_I 39000 d zv hs zv → Lb p l e room_1 s m args below meth c 9 1000 6000 Q (w_A s) (m_P F s.heap.size [(bx, d)]) 151 [(4, .int now), (3, .int many), (1, .ref bx), (0, .ref sb)] []) : Lb p l e room_1 s m args below meth c 9 816 5488 Q (w_A s) (m_P F s.heap.size [(bx, p_put dx 13 (x_wL 13))]) 123 [(4, .int now), (3, .int many), (1, .ref bx), (0, .ref sb)] [] := by
  have hno : ¬ (o_deliverOil (zn zv 1) (nI 33)).1 = none := by
    have e : o_deliverOil (zn zv 1) (nI 33) = (some q_eS, 0, zn zv 1) := by
      have hq : q_n (zn zv 1) = 0 := by
        show q_i ((o_burnNight zv).2.2 0) = 0
        rw [zn_n hI.1 (by omega)]
        exact h0
      unfold o_deliverOil
      rw [if_neg (by decide), if_pos hq]
    rw [e]
    intro y
    cases y
  refine l_aload_n C.1 dL_law_123 2 rfl ?_
  obtain ⟨d92, hm92, hI, h12⟩ := xt_bad (v := 13) (k9 := 2) (f9 := 1) hfl hI (by omega) (by decide) (by decide) tx_13a tx_13b.1 tx_13b.2 (by decide) (zn zv) rfl (zn_13 zv) (by rw [tx_13c1.1, tx_13c1.2.1, tx_13c1.2.2]; exact ⟨_, q_k2 (by decide) (by decide), hno⟩)
  refine m_callH C (As := [.ref bx]) (rest := []) (hm92 (w_B F bx)) (vx_cwSW 1 C.1.2.2.2.2 gL_law_L_runs rfl rfl rfl (by decide +kernel) ⟨Nat.le_of_ble_eq_true rfl, Nat.le_of_ble_eq_true rfl⟩) rfl rfl (Nat.le_of_ble_eq_true rfl) dL_law_124 ⟨Nat.le_of_ble_eq_true rfl, Nat.le_of_ble_eq_true rfl⟩ ?_
  refine l_bipush C.1 dL_law_127 (v := (-2)) (by decide) ?_
  refine l_icmp_ne C.1 dL_law_129 (tgt := 149) (by decide) (fun h => absurd rfl h) (fun h129 => ?_)
  refine l_aload_n C.1 dL_law_132 2 rfl ?_
  refine m_callV C (b := bx) (As := []) (rest := []) (c_F_failedCommand l (w_B F bx) _ (by rw [h12]; decide)) (cwV 0 C.1.2.2.2.2 gL_law_X11_failedCommand rfl rfl rfl (by decide +kernel) ⟨Nat.le_of_ble_eq_true rfl, Nat.le_of_ble_eq_true rfl⟩) rfl rfl (Nat.le_of_ble_eq_true rfl) dL_law_133 ⟨Nat.le_of_ble_eq_true rfl, Nat.le_of_ble_eq_true rfl⟩ ?_
  refine l_top (y := 1) h12 ?_
  refine l_iconst C.1 dL_law_136 (v := 1) (by decide) ?_
  refine l_icmp_ne C.1 dL_law_137 (tgt := 149) (by decide) (fun h => absurd rfl h) (fun h137 => ?_)
  refine l_aload_n C.1 dL_law_140 2 rfl ?_
  obtain ⟨⟨n93, w93, t93⟩, -⟩ := id (hI.1)
  refine m_callS C (As := [.ref bx]) (rest := []) (c_L_state l (w_B F bx) _ _ _ n93 w93 t93 (fun _ h => h.2)) (va_cwS 1 C.1.2.2.2.2 gL_law_L_state rfl rfl rfl (by decide +kernel) ⟨Nat.le_of_ble_eq_true rfl, Nat.le_of_ble_eq_true rfl⟩) rfl rfl (Nat.le_of_ble_eq_true rfl) dL_law_141 ⟨Nat.le_of_ble_eq_true rfl, Nat.le_of_ble_eq_true rfl⟩ ?_
  refine l_top (y := now) hnow.symm ?_
  refine l_iload C.1 dL_law_144 0 rfl ?_
  refine l_icmp_eq C.1 dL_law_146 (tgt := 151) (by decide) (fun h146 => ?_) (fun h => absurd rfl h)
  refine l_widen (k := 1000) (n := 6000) (Nat.le_of_ble_eq_true rfl) (Nat.le_of_ble_eq_true rfl) ?_
  exact K _ (x_I_up hI (by omega))
theorem q_len {B : Nat} {d : xd} {z : Nat → Int32} {hs : List (Nat → Int32)} (h : q_R B d z hs) : ¬ nI hs.length < 0 := by
  obtain ⟨-, q, -, -, -, h8, -⟩ := h
  exact nI_pos (by omega)
set_option maxHeartbeats 2000000 in
theorem x_1y (C : Mx F p s m args c cL_law wsL_law RL 9) (hfl : l.stackTraces = false) (hI : x_I 38000 dx zv hs zv) (hy : q_R 38000 dy zv hsy) (h0 : ¬ q_n zv = 0) (hnow : now = q_hash zv)
    (K : ∀ (d : xd) (hs : List (Nat → Int32)), x_I 39000 d zv hs zv → Lb p l e room_1 s m args below meth c 9 1000 6000 Q (w_A s) (m_P F s.heap.size [(bx, d)]) 151 [(4, .int now), (3, .int many), (1, .ref bx), (0, .ref sb)] []) : Lb p l e room_1 s m args below meth c 9 816 5488 Q (w_A s) (m_P F s.heap.size [(bx, p_put dx 13 (x_wL 13)), (by9, dy)]) 31 [(4, .int now), (3, .int many), (2, .ref by9), (1, .ref bx), (0, .ref sb)] [] := by
  have hqn : q_n ((o_burnNight zv).2.2) = q_n zv := by
    unfold q_n
    rw [zn_n hI.1 (by omega)]
  obtain ⟨dy1, lvy1, hlvy1, hmy1, hy1, hky1⟩ := q_A_ok (z2 := (o_burnNight zv).2.2) (q_burnNight hfl hy (by omega)) ⟨rfl, rfl, fun _ _ => rfl⟩
  obtain ⟨hd1, hd2⟩ := do_ge hy1 (by rw [hqn]; exact h0)
  obtain ⟨dy2, lvy2, hlvy2, hmy2, hy2, hky2⟩ := q_A_ok (z2 := (o_deliverOil (o_burnNight zv).2.2 (nI 33)).2.2) (q_deliverOil hfl hy1 (by omega) (nI 33)) ⟨hd1, rfl, fun _ _ => rfl⟩
  obtain ⟨dy3, lvy3, hlvy3, hmy3, hy3, hky3⟩ := q_A_ok (z2 := zn zv 3) (q_burnNight hfl hy2 (by omega)) ⟨rfl, rfl, fun _ _ => rfl⟩
  refine l_aload_n C.1 dL_law_31 3 rfl ?_
  obtain ⟨de, hme, hxe, hxe1, hxe0, hke⟩ := q_exec_ok (tx := tw 13) (L := x_wL 13) (k9 := 2) (l := l) (p_put_R (v := 13) (k := x_wL 13) hI.1) (by omega) (x_wL_27 13 (by decide)) (p_put_1 dx 13 hI.2.2 (x_wL 13)) (x_w128 13 (by decide)) (p_put_9 dx 13 (x_wL 13)) (by decide) tx_13a tx_13b.1 tx_13b.2 (zn zv) rfl (zn_13y zv hd1)
  refine m_callV C (b := bx) (As := []) (rest := []) (hme (w_B F bx)) (cwV 0 C.1.2.2.2.2 gL_law_X11_execute rfl rfl rfl (by decide +kernel) ⟨Nat.le_of_ble_eq_true rfl, Nat.le_of_ble_eq_true rfl⟩) rfl rfl (Nat.le_of_ble_eq_true rfl) dL_law_32 ⟨Nat.le_of_ble_eq_true rfl, Nat.le_of_ble_eq_true rfl⟩ ?_
  refine l_top (y := 3) rfl ?_
  refine l_iconst C.1 dL_law_35 (v := 3) (by decide) ?_
  refine l_icmp_ne C.1 dL_law_36 (tgt := 73) (by decide) (fun h => absurd rfl h) (fun h36 => ?_)
  refine l_aload_n C.1 dL_law_39 2 rfl ?_
  refine m_swap ?_
  refine m_callV C (b := by9) (As := []) (rest := []) (hmy1 (w_B F by9)) (cwV 0 C.1.2.2.2.2 gL_law_X11_burnNight rfl rfl rfl (by decide +kernel) ⟨by dsimp only [x_rm, room_1]; omega, by dsimp only [x_rm, room_1]; omega⟩) rfl rfl (Nat.le_of_ble_eq_true rfl) dL_law_40 ⟨Nat.le_of_ble_eq_true rfl, Nat.le_of_ble_eq_true rfl⟩ ?_
  refine l_if_lt C.1 dL_law_43 (tgt := 73) (by decide) (fun h => absurd h (bn_ge hy)) (fun h43 => ?_)
  refine l_aload_n C.1 dL_law_46 2 rfl ?_
  refine l_bipush C.1 dL_law_47 (v := 33) (by decide) ?_
  refine m_callV C (b := by9) (As := [.int 33]) (rest := []) (hmy2 (w_B F by9)) (cwV 1 C.1.2.2.2.2 gL_law_X11_deliverOil rfl rfl rfl (by decide +kernel) ⟨by dsimp only [x_rm, room_1]; omega, by dsimp only [x_rm, room_1]; omega⟩) rfl rfl (Nat.le_of_ble_eq_true rfl) dL_law_49 ⟨Nat.le_of_ble_eq_true rfl, Nat.le_of_ble_eq_true rfl⟩ ?_
  refine l_if_lt C.1 dL_law_52 (tgt := 73) (by decide) (fun h => absurd h hd2) (fun h52 => ?_)
  refine l_aload_n C.1 dL_law_55 2 rfl ?_
  refine m_callV C (b := by9) (As := []) (rest := []) (hmy3 (w_B F by9)) (cwV 0 C.1.2.2.2.2 gL_law_X11_burnNight rfl rfl rfl (by decide +kernel) ⟨by dsimp only [x_rm, room_1]; omega, by dsimp only [x_rm, room_1]; omega⟩) rfl rfl (Nat.le_of_ble_eq_true rfl) dL_law_56 ⟨Nat.le_of_ble_eq_true rfl, Nat.le_of_ble_eq_true rfl⟩ ?_
  refine l_if_lt C.1 dL_law_59 (tgt := 73) (by decide) (fun h => absurd h (bn_ge hy2)) (fun h59 => ?_)
  refine l_aload_n C.1 dL_law_62 3 rfl ?_
  refine m_swap ?_
  obtain ⟨⟨n94, w94, t94⟩, -⟩ := id (hxe)
  refine m_callS C (As := [.ref bx]) (rest := []) (c_L_state l (w_B F bx) _ _ _ n94 w94 t94 (fun _ h => h.2)) (va_cwS 1 C.1.2.2.2.2 gL_law_L_state rfl rfl rfl (by decide +kernel) ⟨Nat.le_of_ble_eq_true rfl, Nat.le_of_ble_eq_true rfl⟩) rfl rfl (Nat.le_of_ble_eq_true rfl) dL_law_63 ⟨Nat.le_of_ble_eq_true rfl, Nat.le_of_ble_eq_true rfl⟩ ?_
  refine l_aload_n C.1 dL_law_66 2 rfl ?_
  refine m_swap ?_
  obtain ⟨⟨n95, w95, t95⟩, -⟩ := id (hy3)
  refine m_callS C (As := [.ref by9]) (rest := [.int (q_hash (zn zv 3))]) (c_L_state l (w_B F by9) _ _ _ n95 w95 t95 (fun _ h => h.2)) (va_cwS 1 C.1.2.2.2.2 gL_law_L_state rfl rfl rfl (by decide +kernel) ⟨Nat.le_of_ble_eq_true rfl, Nat.le_of_ble_eq_true rfl⟩) rfl rfl (Nat.le_of_ble_eq_true rfl) dL_law_67 ⟨Nat.le_of_ble_eq_true rfl, Nat.le_of_ble_eq_true rfl⟩ ?_
  refine l_icmp_eq C.1 dL_law_70 (tgt := 75) (by decide) (fun h70 => ?_) (fun h => absurd rfl h)
  refine l_aload_n C.1 dL_law_75 3 rfl ?_
  refine m_swap ?_
  obtain ⟨d96, hm96, hxu, hk96⟩ := q_undo (l := l) (z1 := zv) (hs := hs.take 7) hxe
  refine m_callV C (b := bx) (As := []) (rest := []) (hm96 (w_B F bx)) (cwV 0 C.1.2.2.2.2 gL_law_X11_undo rfl rfl rfl (by decide +kernel) ⟨Nat.le_of_ble_eq_true rfl, Nat.le_of_ble_eq_true rfl⟩) rfl rfl (Nat.le_of_ble_eq_true rfl) dL_law_76 ⟨Nat.le_of_ble_eq_true rfl, Nat.le_of_ble_eq_true rfl⟩ ?_
  have hkx := hk96
  refine l_if_lt C.1 dL_law_79 (tgt := 121) (by decide) (fun h => absurd h (q_len hxu)) (fun h79 => ?_)
  refine l_aload_n C.1 dL_law_82 3 rfl ?_
  obtain ⟨⟨n97, w97, t97⟩, -⟩ := id (hxu)
  refine m_callS C (As := [.ref bx]) (rest := []) (c_L_state l (w_B F bx) _ _ _ n97 w97 t97 (fun _ h => h.2)) (va_cwS 1 C.1.2.2.2.2 gL_law_L_state rfl rfl rfl (by decide +kernel) ⟨Nat.le_of_ble_eq_true rfl, Nat.le_of_ble_eq_true rfl⟩) rfl rfl (Nat.le_of_ble_eq_true rfl) dL_law_83 ⟨Nat.le_of_ble_eq_true rfl, Nat.le_of_ble_eq_true rfl⟩ ?_
  refine l_top (y := now) hnow.symm ?_
  refine l_iload C.1 dL_law_86 0 rfl ?_
  refine l_icmp_ne C.1 dL_law_88 (tgt := 121) (by decide) (fun h => absurd rfl h) (fun h88 => ?_)
  refine l_aload_n C.1 dL_law_91 2 rfl ?_
  refine m_swap ?_
  obtain ⟨d98, hm98, hyu1, hk98⟩ := q_undo (l := l) (z1 := zn zv 2) (hs := (q_push (zn zv 1) (q_push zv hsy)).take 7) hy3
  refine m_callV C (b := by9) (As := []) (rest := []) (hm98 (w_B F by9)) (cwV 0 C.1.2.2.2.2 gL_law_X11_undo rfl rfl rfl (by decide +kernel) ⟨Nat.le_of_ble_eq_true rfl, Nat.le_of_ble_eq_true rfl⟩) rfl rfl (Nat.le_of_ble_eq_true rfl) dL_law_92 ⟨Nat.le_of_ble_eq_true rfl, Nat.le_of_ble_eq_true rfl⟩ ?_
  refine l_if_lt C.1 dL_law_95 (tgt := 121) (by decide) (fun h => absurd h (q_len hyu1)) (fun h95 => ?_)
  refine l_aload_n C.1 dL_law_98 2 rfl ?_
  obtain ⟨d99, hm99, hyu2, hk99⟩ := q_undo (l := l) (z1 := zn zv 1) (hs := ((q_push zv hsy).take 7).take 6) hyu1
  refine m_callV C (b := by9) (As := []) (rest := []) (hm99 (w_B F by9)) (cwV 0 C.1.2.2.2.2 gL_law_X11_undo rfl rfl rfl (by decide +kernel) ⟨Nat.le_of_ble_eq_true rfl, Nat.le_of_ble_eq_true rfl⟩) rfl rfl (Nat.le_of_ble_eq_true rfl) dL_law_99 ⟨Nat.le_of_ble_eq_true rfl, Nat.le_of_ble_eq_true rfl⟩ ?_
  refine l_if_lt C.1 dL_law_102 (tgt := 121) (by decide) (fun h => absurd h (q_len hyu2)) (fun h102 => ?_)
  refine l_aload_n C.1 dL_law_105 2 rfl ?_
  obtain ⟨d100, hm100, hyu3, hk100⟩ := q_undo (l := l) (z1 := zv) (hs := ((hsy.take 7).take 6).take 5) hyu2
  refine m_callV C (b := by9) (As := []) (rest := []) (hm100 (w_B F by9)) (cwV 0 C.1.2.2.2.2 gL_law_X11_undo rfl rfl rfl (by decide +kernel) ⟨Nat.le_of_ble_eq_true rfl, Nat.le_of_ble_eq_true rfl⟩) rfl rfl (Nat.le_of_ble_eq_true rfl) dL_law_106 ⟨Nat.le_of_ble_eq_true rfl, Nat.le_of_ble_eq_true rfl⟩ ?_
  refine l_if_lt C.1 dL_law_109 (tgt := 121) (by decide) (fun h => absurd h (q_len hyu3)) (fun h109 => ?_)
  refine l_aload_n C.1 dL_law_112 2 rfl ?_
  obtain ⟨⟨n101, w101, t101⟩, -⟩ := id (hyu3)
  refine m_callS C (As := [.ref by9]) (rest := []) (c_L_state l (w_B F by9) _ _ _ n101 w101 t101 (fun _ h => h.2)) (va_cwS 1 C.1.2.2.2.2 gL_law_L_state rfl rfl rfl (by decide +kernel) ⟨Nat.le_of_ble_eq_true rfl, Nat.le_of_ble_eq_true rfl⟩) rfl rfl (Nat.le_of_ble_eq_true rfl) dL_law_113 ⟨Nat.le_of_ble_eq_true rfl, Nat.le_of_ble_eq_true rfl⟩ ?_
  refine l_top (y := now) hnow.symm ?_
  refine l_iload C.1 dL_law_116 0 rfl ?_
  refine l_icmp_eq C.1 dL_law_118 (tgt := 151) (by decide) (fun h118 => ?_) (fun h => absurd rfl h)
  refine m_drop ?_
  refine l_widen (k := 1000) (n := 6000) (Nat.le_of_ble_eq_true rfl) (Nat.le_of_ble_eq_true rfl) ?_
  refine l_sub (lst2 := [(4, .int now), (3, .int many), (1, .ref bx), (0, .ref sb)]) [0, 1, 3, 4] rfl ?_
  exact K _ _ (x_I_up (B := 38180) ⟨hxu, q_N_k (q_N_ke (B2 := 38180) (q_N_put hI.2.1) hke (by omega)) hkx (Nat.le_refl _), (congrFun (hkx 168 (by omega)) 1).trans hxe1⟩ (by omega))
end LX
