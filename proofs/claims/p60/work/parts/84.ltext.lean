/-! an object with a snapshot and no text -/
def x_I (B : Nat) (d : xd) (z : Nat → Int32) (hs : List (Nat → Int32)) (zv : Nat → Int32) : Prop := q_R B d z hs ∧ q_N B d zv ∧ d 168 1 = 0
theorem x_w128 : ∀ v, v < 27 → ∀ i, i < x_wL v → x_wN v i < 128 := by decide +kernel
section LTEXT
variable {l : Launch} {B v k9 f9 e9 : Nat} {d d1 : xd} {z zv : Nat → Int32} {hs : List (Nat → Int32)}
theorem q_N_put {k : Nat} (h : q_N B d zv) : q_N B (p_put d v k) zv := ⟨by rw [p_put_o d v k 0 (by omega) (by omega)]; exact h.1, r_S_like h.2 (r_rows (fun i h1 h2 => p_put_o d v k i (by omega) (by omega))) (fun _ _ => rfl) (Nat.le_refl _)⟩
theorem a_callH {G : xG} {p : Program} {e : Env} {R : Room} {s : State} {m : MethodId} {args : Array Value} {below : List Frame} {meth : Method} {c : Code} {nL cells slots : Nat} {Q : State → Prop} {cc : ByteArray} {Ts : List Cond} {own : String} {pc : Nat} {lst : List (Nat × Value)} {rest : List Value} {d2 : xd} (C : Cx G p s m args c cc Ts own nL) {y : MethodName} {bytes : ByteArray} {maxL mc ms n index lv : Nat} {ret : Option FieldType} {hh : List (Nat × Nat × Nat × Nat)} {ws : List Cond} {As : List Value} {r : Option Value}
    (hM : x_M G l y ws lv mc ms As d r d2) (cw : vx_CSW R s args own index y bytes maxL ret hh ws (x_rm lv mc ms) mc ms n) (hn : As.length = n) {st : List Value} (hst : st = As.reverse ++ rest) (hro : (rest.map fun v => v.category).sum ≤ 8) (hdg : decode cc pc = .ok (.invokestatic index, 3)) (hf : cells + mc ≤ R.cells ∧ slots + ms ≤ R.slots)
    (kk : Ab G p l e R s m args below meth c nL (cells + mc) (slots + ms) Q (pc + 3) lst (r.toList ++ rest) d2) : Ab G p l e R s m args below meth c nL cells slots Q pc lst st d := by
  intro H locs ls hP hS hl
  subst hst
  exact x_go (free := x_A G) (vx_runSW (As := As) (rest := rest) C.1 hM cw ⟨x_blind G _ d, x_pre C.2 hP hS⟩ rfl hn hl.1 rfl (lv_room hro) hdg hf) hS hl kk
theorem c_L_fails (l : Launch) (G : xG) (d d1 : xd) (v e9 : Nat) (hv : v < 27) (he : e9 < 1000) (hd : d 168 1 = 0) (hm : x_X G l yX11_execute wsX11_execute 10 [.ref (x_b G + 0)] (p_put d v (x_wL v)) q_eA d1) (h11 : d1 0 11 = nI e9) : x_M G l yL_fails wsL_fails 12 1 6 [.ref (x_b G + 0), .ref (x_e G 2 v), .int (nI e9)] d (some (.int 1)) d1 := by
  refine x_start (cc := cL_fails) (own := RL) (maxL := 3) (by decide) rfl rfl (Nat.le_of_ble_eq_true rfl) rfl ?_
  intro p e s m args below meth c C hret hlocks
  refine a_aload_n C dL_fails_0 0 rfl ?_
  refine a_aload_n C dL_fails_1 1 rfl ?_
  refine a_callS C (As := [.ref (x_b G + 0), .ref (x_e G 2 v)]) (rest := []) (c_L_put l G d v hv hd) (va_cwS 2 C.1.2.2.2.2 gL_fails_L_put rfl rfl rfl (by decide +kernel) ⟨Nat.le_of_ble_eq_true rfl, Nat.le_of_ble_eq_true rfl⟩) rfl rfl (Nat.le_of_ble_eq_true rfl) dL_fails_2 ⟨Nat.le_of_ble_eq_true rfl, Nat.le_of_ble_eq_true rfl⟩ ?_
  refine a_aload_n C dL_fails_5 0 rfl ?_
  refine a_callH C (As := [.ref (x_b G + 0)]) (rest := []) (c_L_runs_1 l G _ d1 hm) (vx_cwSW 1 C.1.2.2.2.2 gL_fails_L_runs rfl rfl rfl (by decide +kernel) ⟨Nat.le_of_ble_eq_true rfl, Nat.le_of_ble_eq_true rfl⟩) rfl rfl (Nat.le_of_ble_eq_true rfl) dL_fails_6 ⟨Nat.le_of_ble_eq_true rfl, Nat.le_of_ble_eq_true rfl⟩ ?_
  refine a_iconst C dL_fails_9 (v := -1) (by decide) ?_
  refine a_icmp_ne C dL_fails_10 (tgt := 25) (by decide) (fun h => absurd rfl h) (fun _ => ?_)
  refine a_aload_n C dL_fails_13 0 rfl ?_
  have h0 : ¬ d1 0 11 = -1 := by
    rw [h11]
    intro y
    have h9 := nI_pos (n := e9) (by omega)
    rw [y] at h9
    exact h9 (by decide)
  refine a_callV C (k := 0) (As := []) (rest := []) (c_F_errorPosition l G d1 h0) (cwV 0 C.1.2.2.2.2 gL_fails_X11_errorPosition rfl rfl rfl (by decide +kernel) ⟨Nat.le_of_ble_eq_true rfl, Nat.le_of_ble_eq_true rfl⟩) x_k0 (q := (RX11, TX11, 13)) rfl rfl rfl rfl (Nat.le_of_ble_eq_true rfl) dL_fails_14 ⟨Nat.le_of_ble_eq_true rfl, Nat.le_of_ble_eq_true rfl⟩ ?_
  refine a_iload_n C dL_fails_17 2 rfl ?_
  refine a_icmp_ne C dL_fails_18 (tgt := 25) (by decide) (fun h => absurd h11 h) (fun _ => ?_)
  refine a_iconst C dL_fails_21 (v := 1) (by decide) ?_
  refine a_goto C dL_fails_22 (tgt := 26) (by decide) ?_
  exact a_zret C hlocks hret rfl dL_fails_26 rfl rfl
theorem xt_bad (hfl : l.stackTraces = false) (h : x_I B d z hs zv) (hB : B + 180 < 100000) (hv : v < 27) (hk9 : k9 < 15) (hgood : ∀ j, j < k9 → tp_co (tw v) (x_wL v) (tp_P (tw v) (x_wL v) j) ∧ tp_c (tw v) (x_wL v) (tp_ce (tw v) (x_wL v) (tp_P (tw v) (x_wL v) j)) 59 = true) (hco : tp_co (tw v) (x_wL v) (tp_P (tw v) (x_wL v) k9)) (hend : x_wL v ≤ tp_ce (tw v) (x_wL v) (tp_P (tw v) (x_wL v) k9)) (hf9 : f9 < k9 + 1) (zs : Nat → Nat → Int32) (h0 : zs 0 = z)
    (hst : ∀ i, i < f9 → ∃ o : q_O, q_cmd l (tp_vb (tw v) (x_wL v) (tp_P (tw v) (x_wL v) i)) (tp_v1 (tw v) (x_wL v) (tp_P (tw v) (x_wL v) i)) (tp_v2 (tw v) (x_wL v) (tp_P (tw v) (x_wL v) i)) (zs i) o ∧ o.1 = none ∧ o.2.2 = zs (i + 1))
    (hbad : ∃ o : q_O, q_cmd l (tp_vb (tw v) (x_wL v) (tp_P (tw v) (x_wL v) f9)) (tp_v1 (tw v) (x_wL v) (tp_P (tw v) (x_wL v) f9)) (tp_v2 (tw v) (x_wL v) (tp_P (tw v) (x_wL v) f9)) (zs f9) o ∧ ¬ o.1 = none) : ∃ d1 : xd, (∀ G : xG, x_M G l yL_runs wsL_runs 11 1 6 [.ref (x_b G + 0)] (p_put d v (x_wL v)) (some (.int (-2))) d1) ∧ x_I B d1 z hs zv ∧ d1 0 12 = nI f9 := by
  obtain ⟨d1, hm, hr, h1, h12, -, hke⟩ := q_exec_bad hfl (p_put_R h.1) hB (x_wL_27 v hv) (p_put_1 d v h.2.2 (x_wL v)) (x_w128 v hv) (p_put_9 d v (x_wL v)) hk9 hgood hco hend f9 hf9 zs h0 hst hbad
  exact ⟨d1, fun G => c_L_runs_2 l G _ d1 (hm G), ⟨hr, q_N_ke (q_N_put h.2.1) hke (Nat.le_refl _), h1⟩, h12⟩
theorem xt_err (h : x_I B d z hs zv) (hv : v < 27) (he : e9 < 1000) (hx : ∃ d1 : xd, (∀ G : xG, x_X G l yX11_execute wsX11_execute 10 [.ref (x_b G + 0)] (p_put d v (x_wL v)) q_eA d1) ∧ q_R B d1 z hs ∧ d1 168 1 = 0 ∧ d1 0 11 = nI e9 ∧ d1 0 12 = p_put d v (x_wL v) 0 12 ∧ q_ke (p_put d v (x_wL v)) d1) :
    ∃ d1 : xd, (∀ G : xG, x_M G l yL_fails wsL_fails 12 1 6 [.ref (x_b G + 0), .ref (x_e G 2 v), .int (nI e9)] d (some (.int 1)) d1) ∧ x_I B d1 z hs zv ∧ d1 0 12 = d 0 12 := by
  obtain ⟨d1, hm, hr, h1, h11, h12, hke⟩ := hx
  exact ⟨d1, fun G => c_L_fails l G d d1 v e9 hv he h.2.2 (hm G) h11, ⟨hr, q_N_ke (q_N_put h.2.1) hke (Nat.le_refl _), h1⟩, by rw [h12, p_put_o d v _ 0 (by omega) (by omega)]⟩
theorem xt_err1 (hfl : l.stackTraces = false) (h : x_I B d z hs zv) (hv : v < 27) (he : e9 < 1000) (hk9 : k9 < 15) (hgood : ∀ j, j < k9 → tp_co (tw v) (x_wL v) (tp_P (tw v) (x_wL v) j) ∧ tp_c (tw v) (x_wL v) (tp_ce (tw v) (x_wL v) (tp_P (tw v) (x_wL v) j)) 59 = true) (hco : ¬ tp_co (tw v) (x_wL v) (tp_P (tw v) (x_wL v) k9)) (hce : tp_ce (tw v) (x_wL v) (tp_P (tw v) (x_wL v) k9) = e9) :
    ∃ d1 : xd, (∀ G : xG, x_M G l yL_fails wsL_fails 12 1 6 [.ref (x_b G + 0), .ref (x_e G 2 v), .int (nI e9)] d (some (.int 1)) d1) ∧ x_I B d1 z hs zv ∧ d1 0 12 = d 0 12 := by
  subst hce
  exact xt_err h hv he (q_exec_err1 hfl (p_put_R h.1) (x_wL_27 v hv) (p_put_1 d v h.2.2 (x_wL v)) (x_w128 v hv) (p_put_9 d v (x_wL v)) hk9 hgood hco)
theorem xt_err2 (hfl : l.stackTraces = false) (h : x_I B d z hs zv) (hv : v < 27) (he : e9 < 1000) (hk9 : k9 < 15) (hgood : ∀ j, j < k9 → tp_co (tw v) (x_wL v) (tp_P (tw v) (x_wL v) j) ∧ tp_c (tw v) (x_wL v) (tp_ce (tw v) (x_wL v) (tp_P (tw v) (x_wL v) j)) 59 = true) (hco : tp_co (tw v) (x_wL v) (tp_P (tw v) (x_wL v) k9)) (hlt : tp_ce (tw v) (x_wL v) (tp_P (tw v) (x_wL v) k9) < x_wL v) (hno : ¬ tp_c (tw v) (x_wL v) (tp_ce (tw v) (x_wL v) (tp_P (tw v) (x_wL v) k9)) 59 = true) (hce : tp_ce (tw v) (x_wL v) (tp_P (tw v) (x_wL v) k9) = e9) :
    ∃ d1 : xd, (∀ G : xG, x_M G l yL_fails wsL_fails 12 1 6 [.ref (x_b G + 0), .ref (x_e G 2 v), .int (nI e9)] d (some (.int 1)) d1) ∧ x_I B d1 z hs zv ∧ d1 0 12 = d 0 12 := by
  subst hce
  exact xt_err h hv he (q_exec_err2 hfl (p_put_R h.1) (x_wL_27 v hv) (p_put_1 d v h.2.2 (x_wL v)) (x_w128 v hv) (p_put_9 d v (x_wL v)) hk9 hgood hco hlt hno)
end LTEXT
