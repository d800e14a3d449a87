/-! act: what a change answers, the refusals as numbers -/
def v_ex (E : String) : Int32 := if E = q_eS then -2 else -3
def v_do (o : q_O) (z : Nat → Int32) (hs : List (Nat → Int32)) : Int32 × (Nat → Int32) × List (Nat → Int32) := match o.1 with
  | none => (o.2.1, o.2.2, q_push z hs)
  | some E => (v_ex E, z, hs)
theorem v_do_none {o : q_O} {z : Nat → Int32} {hs : List (Nat → Int32)} (h : o.1 = none) : v_do o z hs = (o.2.1, o.2.2, q_push z hs) := by
  unfold v_do
  rw [h]
theorem v_do_some {o : q_O} {z : Nat → Int32} {hs : List (Nat → Int32)} {E : String} (h : o.1 = some E) : v_do o z hs = (v_ex E, z, hs) := by
  unfold v_do
  rw [h]
def o_bz (o : q_O) : q_O := (o.1, x_bz o.2.1, o.2.2)
def v_C (l : Launch) (B : Nat) (d : xd) (z : Nat → Int32) (hs : List (Nat → Int32)) (w a b : Int32) (o : q_O) : Prop := ∃ d1 : xd, (∀ G : xG, x_M G l yL_act wsL_act 11 1 6 [.ref (x_b G + 0), .int w, .int a, .int b] d (some (.int (v_do o z hs).1)) d1) ∧ q_R (B + 180) d1 (v_do o z hs).2.1 (v_do o z hs).2.2 ∧ q_k d d1
abbrev x_hh : List (Nat × Nat × Nat × Nat) := [(0, 78, 199, 96), (79, 84, 199, 96), (85, 91, 199, 96), (92, 98, 199, 96), (99, 128, 199, 96), (129, 134, 199, 96), (135, 140, 199, 96), (141, 147, 199, 96), (148, 154, 199, 96), (155, 160, 199, 96), (161, 167, 199, 96), (168, 181, 199, 96), (182, 186, 199, 96), (187, 191, 199, 96), (192, 198, 199, 96), (0, 78, 204, 98), (79, 84, 204, 98), (85, 91, 204, 98), (92, 98, 204, 98), (99, 128, 204, 98), (129, 134, 204, 98), (135, 140, 204, 98), (141, 147, 204, 98), (148, 154, 204, 98), (155, 160, 204, 98), (161, 167, 204, 98), (168, 181, 204, 98), (182, 186, 204, 98), (187, 191, 204, 98), (192, 198, 204, 98), (0, 78, 209, 100), (79, 84, 209, 100), (85, 91, 209, 100), (92, 98, 209, 100), (99, 128, 209, 100), (129, 134, 209, 100), (135, 140, 209, 100), (141, 147, 209, 100), (148, 154, 209, 100), (155, 160, 209, 100), (161, 167, 209, 100), (168, 181, 209, 100), (182, 186, 209, 100), (187, 191, 209, 100), (192, 198, 209, 100)]
abbrev x_tb : List ExceptionTableEntry := tableOf x_hh
def x_t0 : ExceptionTableEntry := ⟨0, 0, 0, 0⟩
theorem x_split {α : Type} (L : List α) (k : Nat) (a0 : α) (h : k < L.length) : L = L.take k ++ L.getD k a0 :: L.drop (k + 1) := by
  have h1 := (List.take_append_drop k L).symm
  rw [List.drop_eq_getElem_cons h] at h1
  rw [List.getD_eq_getElem?_getD, List.getElem?_eq_getElem h]
  exact h1
/-- which row of the table a call at pc comes to -/
abbrev x_row (pc k h ct : Nat) : Prop := covers (x_tb.getD k x_t0) pc = true ∧ (x_tb.getD k x_t0).handlerPc = h ∧ (x_tb.getD k x_t0).catchType = ct
abbrev x_chk (pc i : Nat) : Prop := i < 15 ∧ (x_row pc i 199 96 ∧ x_row pc (15 + i) 204 98 ∧ x_row pc (30 + i) 209 100) ∧ (∀ z ∈ x_tb.take i, covers z pc = false) ∧ (∀ z ∈ x_tb.take (15 + i), covers z pc = false ∨ z.catchType = 96) ∧ (∀ z ∈ x_tb.take (30 + i), covers z pc = false ∨ z.catchType = 96 ∨ z.catchType = 98)
section LCAT
variable {G : xG} {p : Program} {l : Launch} {e : Env} {R : Room} {s : State} {m : MethodId} {args : Array Value} {below : List Frame} {meth : Method} {c : Code} {nL cells slots : Nat} {Q : State → Prop} {cc : ByteArray} {Ts : List Cond} {own : String} {pc : Nat} {lst lst2 : List (Nat × Value)} {rest : List Value} {d : xd}
theorem x_startH {y : MethodName} {ws ws2 : List Cond} {lv mc ms maxL : Nat} {ret : Option FieldType} {hh : List (Nat × Nat × Nat × Nat)} {av : List Value} {r : Option Value} {d2 : xd} (hy : plainName y.cls = true) (hw : ws = Cond.codeWith y cc maxL ret hh :: ws2) (ho : y.cls = own) (hlen : (lg_sl av).length ≤ maxL) (hlst : lv_args 0 av = lst)
    (body : ∀ (p : Program) (e : Env) (s : State) (m : MethodId) (args : Array Value) (below : List Frame) (meth : Method) (c : Code), Cx G p s m args c cc ws own maxL → meth.sig.returnType = ret → meth.locks = false → c.exceptionTable.toList = tableOf hh → Ab G p l e (x_rm lv mc ms) s m args below meth c maxL 0 0 (MQ below (x_Q G r d2) args s mc ms (x_A G)) 0 lst [] d) : x_M G l y ws lv mc ms av d r d2 := by
  unfold x_M Met
  refine MetFree.of_bodyS (code := cc) (maxLocals := maxL) (ret := ret) hy ?_ ?_
  · intro args s m h hn
    obtain ⟨m9, meth, c, hn9, h1, h2, h3, h4, -, h5, h6, -⟩ := Cond.codeWith_spec (atoms_spec (ws := ws) h _ (by rw [hw]; exact List.mem_cons_self))
    cases hn.symm.trans hn9
    exact ⟨meth, c, h1, h2, h3, h4, h5, h6⟩
  · intro p e s m args below meth c s₁ B hml hv _
    have hh0 : s₁.heap = s.heap := by rw [B.state]; rfl
    have hT := vx_table (x := y) B (atoms_spec (ws := ws) B.pre _ (by rw [hw]; exact List.mem_cons_self))
    obtain ⟨rfl, hP, hK⟩ := hv
    have hl := lv_entry av (n := maxL) hlen
    rw [hlst] at hl
    have K : W p l e (x_rm lv mc ms) s m av.toArray below meth c s.heap [] 0 0 (MQ below (x_Q G r d2) av.toArray s mc ms (x_A G)) (entryFrame m av.toArray maxL) := by
      rw [lg_entry_eq]
      exact body p e s m _ below meth c ⟨⟨B.exec, B.bytes, hml, ho ▸ findClass_of_methodNamed B.named, atoms_spec (ws := ws) B.pre⟩, hK⟩ B.returns B.notSynchronized hT s.heap [] _ hP va_S.rf hl
    obtain ⟨t, a1, o, b1, b2, b3⟩ := K s₁ hh0 (Stand.of_body B)
    exact ⟨t, o, a1, b1, b2, b3⟩
/-- a call that throws, caught here -/
theorem a_callC (C : Cx G p s m args c cc Ts own nL) {y : MethodName} {Cn : String} {bytes : ByteArray} {maxL n index lv k ci : Nat} {ret : Option FieldType} {ws : List Cond} {As : List Value} {E : String} {d2 : xd} {fl : List (Option Nat)} {q : vw_C}
    (hM : x_X G l y ws lv (.ref (x_b G + k) :: As) d E d2) (cw : CallW R s args own Cn index y bytes maxL ret ws (x_rm lv 1 6) 1 6 n) (hk : x_sh[k]? = some (.inl (ci, fl))) (hc : vwCl[ci]? = some q) (hq : q.1 = Cn) (hn : As.length = n) {st : List Value} (hst : st = As.reverse ++ .ref (x_b G + k) :: rest) (hro : (rest.map fun v => v.category).sum ≤ 8) (hdg : decode cc pc = .ok (.invokevirtual index, 3)) (hf : cells + 1 ≤ R.cells ∧ slots + 6 ≤ R.slots)
    (pre : List ExceptionTableEntry) (x : ExceptionTableEntry) (suf : List ExceptionTableEntry) (hsplit : c.exceptionTable.toList = pre ++ x :: suf)
    (hpass : ∀ z ∈ pre, covers z pc = false ∨ (z.catchType ≠ 0 ∧ ∃ nm : String, Cond.classLink own z.catchType nm ∈ Ts ∧ (E, nm) ∈ x_ncs)) (hx : covers x pc = true) (h0 : x.catchType ≠ 0) (hlink : Cond.classLink own x.catchType E ∈ Ts) (hcast : E ∈ x_cs)
    (kk : ∀ w : Nat, Ab G p l e R s m args below meth c nL (cells + 1) (slots + 6) Q x.handlerPc lst [.ref w] d2) : Ab G p l e R s m args below meth c nL cells slots Q pc lst st d := by
  intro H locs ls hP hS hl
  subst hst
  subst hq
  have hr := vx_runV (locs := locs) (meth := meth) (below := below) (e := e) (As := As) (rest := rest) (g := F0 m pc ls (As.reverse ++ .ref (x_b G + k) :: rest)) C.1 hM cw ⟨x_blind G _ d, va_recv C.2.1 hP hc (x_get G d hk), x_pre C.2 hP hS⟩ rfl hn hl.1 rfl (lv_room hro) hdg hf
  intro T hT0 X
  rcases hr T hT0 X with ⟨v, st₀, t, T', L, h0, X', hL, e1, e2, hf, st⟩ | ⟨q, st₀, t, T', L, E2, ce, h00, X', hL, e1, e2, ⟨hE, hu, hz, hk⟩, hcell, hvm, hcl, st⟩
  · exact hf.elim
  · subst hE
    rw [h00] at hz hk
    have hS1 : va_S (x_A G) s.heap T'.heap (locs ++ L) := ⟨Nat.le_trans hS.1 (by rw [e1]; exact hz), fun q h1 h2 => by rw [e1, hk q (Nat.lt_of_lt_of_le h1 hS.1) h2]; exact hS.2.1 q h1 h2, fun q hq => by
      rcases List.mem_append.mp hq with h | h
      · exact hS.2.2 q h
      · exact hL q h⟩
    obtain ⟨-, -, y1, y2, y3, y4, y5, y6, y7, y8, y9, y10, y11, y12, y13, y14, y15, y16, y17, y18, y19, y20, y21⟩ := C.2
    have hout : vx_W p l e R s m args below meth c T'.heap (locs ++ L) (cells + 1) (slots + 6) Q (F0 m pc ls rest) q :=
      vx_catch C.1.2.2.2.1 pre x suf hsplit (fun z hz => (hpass z hz).imp (fun y => y) (fun y => by
        obtain ⟨z0, nm, z1, z2⟩ := y
        exact ⟨z0, nm, C.1.2.2.2.2 _ z1, y18 _ z2⟩)) hx h0 (C.1.2.2.2.2 _ hlink) (va_tabs rfl rfl (y20 _ hcast)) (by rw [e1]; exact hcell) hvm hcl
        (kk q T'.heap (locs ++ L) ls (by rw [e1]; exact hu) hS1 hl)
    obtain ⟨t2, a1, b1⟩ := hout T' rfl X'
    exact ⟨t2, st.trans a1, b1⟩
end LCAT
theorem x_lS : Cond.classLink RL 96 "java/lang/IllegalStateException" ∈ wsL_act := by decide +kernel
theorem x_lA : Cond.classLink RL 98 "java/lang/IllegalArgumentException" ∈ wsL_act := by decide +kernel
theorem x_lI : Cond.classLink RL 100 "java/lang/IndexOutOfBoundsException" ∈ wsL_act := by decide +kernel
section LCAT2
variable {G : xG} {p : Program} {l : Launch} {e : Env} {s : State} {m : MethodId} {args : Array Value} {below : List Frame} {meth : Method} {c : Code} {pc : Nat} {lst : List (Nat × Value)} {d : xd}
theorem l_hS (C : Cx G p s m args c cL_act wsL_act RL 5) (hr : meth.sig.returnType = some .int) (hlocks : meth.locks = false) (w : Nat) : Ab G p l e (x_rm 11 1 6) s m args below meth c 5 (0 + 1) (0 + 6) (MQ below (x_Q G (some (.int (v_ex q_eS))) d) args s 1 6 (x_A G)) 199 lst [.ref w] d := by
  refine a_astore C dL_act_199 (by decide) rfl ?_
  refine a_bipush C dL_act_201 rfl ?_
  exact a_iret C hlocks hr dL_act_203 (by decide) rfl
theorem l_hA (C : Cx G p s m args c cL_act wsL_act RL 5) (hr : meth.sig.returnType = some .int) (hlocks : meth.locks = false) (w : Nat) : Ab G p l e (x_rm 11 1 6) s m args below meth c 5 (0 + 1) (0 + 6) (MQ below (x_Q G (some (.int (v_ex q_eA))) d) args s 1 6 (x_A G)) 204 lst [.ref w] d := by
  refine a_astore C dL_act_204 (by decide) rfl ?_
  refine a_bipush C dL_act_206 rfl ?_
  exact a_iret C hlocks hr dL_act_208 (by decide) rfl
theorem l_hI (C : Cx G p s m args c cL_act wsL_act RL 5) (hr : meth.sig.returnType = some .int) (hlocks : meth.locks = false) (w : Nat) : Ab G p l e (x_rm 11 1 6) s m args below meth c 5 (0 + 1) (0 + 6) (MQ below (x_Q G (some (.int (v_ex q_eI))) d) args s 1 6 (x_A G)) 209 lst [.ref w] d := by
  refine a_astore C dL_act_209 (by decide) rfl ?_
  refine a_bipush C dL_act_211 rfl ?_
  exact a_iret C hlocks hr dL_act_213 (by decide) rfl
theorem l_catch (C : Cx G p s m args c cL_act wsL_act RL 5) (hr : meth.sig.returnType = some .int) (hlocks : meth.locks = false) (hT : c.exceptionTable.toList = tableOf x_hh) {E : String} (hE : E = q_eI ∨ E = q_eA ∨ E = q_eS) (i : Nat) (hc : x_chk pc i) {y : MethodName} {bytes : ByteArray} {maxL n index lv : Nat} {ret : Option FieldType} {ws : List Cond} {As : List Value} (hM : x_X G l y ws lv (.ref (x_b G + 0) :: As) d E d) (cw : CallW (x_rm 11 1 6) s args RL RX11 index y bytes maxL ret ws (x_rm lv 1 6) 1 6 n) (hn : As.length = n) {st : List Value} (hst : st = As.reverse ++ [.ref (x_b G + 0)]) (hdg : decode cL_act pc = .ok (.invokevirtual index, 3)) : Ab G p l e (x_rm 11 1 6) s m args below meth c 5 0 0 (MQ below (x_Q G (some (.int (v_ex E))) d) args s 1 6 (x_A G)) pc lst st d := by
  obtain ⟨h15, ⟨⟨c1, c2, c3⟩, ⟨c4, c5, c6⟩, ⟨c7, c8, c9⟩⟩, p1, p2, p3⟩ := hc
  have hlen : x_tb.length = 45 := rfl
  rcases hE with rfl | rfl | rfl
  · refine a_callC C (k := 0) (As := As) (rest := []) hM cw x_k0 (q := (RX11, TX11, 13)) rfl rfl hn hst (Nat.le_of_ble_eq_true rfl) hdg ⟨Nat.le_of_ble_eq_true rfl, Nat.le_of_ble_eq_true rfl⟩ (x_tb.take (30 + i)) (x_tb.getD (30 + i) x_t0) (x_tb.drop (30 + i + 1)) (hT.trans (x_split x_tb (30 + i) x_t0 (show 30 + i < 45 by omega))) (fun z hz => (p3 z hz).imp (fun y => y) (fun y => ?_)) c7 (by rw [c9]; decide) (by rw [c9]; exact x_lI) (by decide +kernel) (fun w => ?_)
    · rcases y with y | y
      · exact ⟨by rw [y]; decide, _, by rw [y]; exact x_lS, by decide +kernel⟩
      · exact ⟨by rw [y]; decide, _, by rw [y]; exact x_lA, by decide +kernel⟩
    · rw [c8]
      exact l_hI C hr hlocks w
  · refine a_callC C (k := 0) (As := As) (rest := []) hM cw x_k0 (q := (RX11, TX11, 13)) rfl rfl hn hst (Nat.le_of_ble_eq_true rfl) hdg ⟨Nat.le_of_ble_eq_true rfl, Nat.le_of_ble_eq_true rfl⟩ (x_tb.take (15 + i)) (x_tb.getD (15 + i) x_t0) (x_tb.drop (15 + i + 1)) (hT.trans (x_split x_tb (15 + i) x_t0 (show 15 + i < 45 by omega))) (fun z hz => (p2 z hz).imp (fun y => y) (fun y => ⟨by rw [y]; decide, _, by rw [y]; exact x_lS, by decide +kernel⟩)) c4 (by rw [c6]; decide) (by rw [c6]; exact x_lA) (by decide +kernel) (fun w => ?_)
    rw [c5]
    exact l_hA C hr hlocks w
  · refine a_callC C (k := 0) (As := As) (rest := []) hM cw x_k0 (q := (RX11, TX11, 13)) rfl rfl hn hst (Nat.le_of_ble_eq_true rfl) hdg ⟨Nat.le_of_ble_eq_true rfl, Nat.le_of_ble_eq_true rfl⟩ (x_tb.take i) (x_tb.getD i x_t0) (x_tb.drop (i + 1)) (hT.trans (x_split x_tb i x_t0 (show i < 45 by omega))) (fun z hz => Or.inl (p1 z hz)) c1 (by rw [c3]; decide) (by rw [c3]; exact x_lS) (by decide +kernel) (fun w => ?_)
    rw [c2]
    exact l_hS C hr hlocks w
end LCAT2
section LACT
variable {l : Launch} {B : Nat} {d : xd} {z : Nat → Int32} {hs : List (Nat → Int32)}
theorem c_L_act_0 (hfl : l.stackTraces = false) (h : q_R B d z hs) (hB : B + 180 < 100000) (a b : Int32) : v_C l B d z hs (nI 0) a b (o_addLamp z a b) := by
  have hc := q_addLamp hfl h hB a b
  rcases hc with ⟨E, lv, h1, hE, hlv, hm⟩ | ⟨d1, lv, h1, hlv, hm, hq, hk⟩
  · refine ⟨d, fun G => ?_, ?_, q_k_refl d⟩
    · rw [v_do_some (o := (o_addLamp z a b)) h1]
      refine x_startH (cc := cL_act) (own := RL) (maxL := 5) (hh := x_hh) (by decide) rfl rfl (Nat.le_of_ble_eq_true rfl) rfl ?_
      intro p e s m args below meth c C hret hlocks hT
      refine a_iload_n C dL_act_0 1 rfl ?_
      refine a_tableIn C dL_act_1 (by decide +kernel) (by decide +kernel) (off := 71) (by decide +kernel) (tgt := 72) (by decide) ?_
      refine a_aload_n C dL_act_72 0 rfl ?_
      refine a_iload_n C dL_act_73 2 rfl ?_
      refine a_iload_n C dL_act_74 3 rfl ?_
      exact l_catch C hret hlocks hT hE 0 (by decide) (As := [.int a, .int b]) (hm G) (cwV 2 C.1.2.2.2.2 gL_act_X11_addLamp rfl rfl rfl (by decide +kernel) ⟨by dsimp only [x_rm]; omega, by dsimp only [x_rm]; omega⟩) rfl rfl dL_act_75
    · rw [v_do_some (o := (o_addLamp z a b)) h1]
      exact q_R_up h (by omega)
  · refine ⟨d1, fun G => ?_, ?_, hk⟩
    · rw [v_do_none (o := (o_addLamp z a b)) h1]
      refine x_startH (cc := cL_act) (own := RL) (maxL := 5) (hh := x_hh) (by decide) rfl rfl (Nat.le_of_ble_eq_true rfl) rfl ?_
      intro p e s m args below meth c C hret hlocks hT
      refine a_iload_n C dL_act_0 1 rfl ?_
      refine a_tableIn C dL_act_1 (by decide +kernel) (by decide +kernel) (off := 71) (by decide +kernel) (tgt := 72) (by decide) ?_
      refine a_aload_n C dL_act_72 0 rfl ?_
      refine a_iload_n C dL_act_73 2 rfl ?_
      refine a_iload_n C dL_act_74 3 rfl ?_
      refine a_callV C (k := 0) (As := [.int a, .int b]) (rest := []) (hm G) (cwV 2 C.1.2.2.2.2 gL_act_X11_addLamp rfl rfl rfl (by decide +kernel) ⟨by dsimp only [x_rm]; omega, by dsimp only [x_rm]; omega⟩) x_k0 (q := (RX11, TX11, 13)) rfl rfl rfl rfl (Nat.le_of_ble_eq_true rfl) dL_act_75 ⟨Nat.le_of_ble_eq_true rfl, Nat.le_of_ble_eq_true rfl⟩ ?_
      refine a_widen (k := 1) (n := 6) (Nat.le_of_ble_eq_true rfl) (Nat.le_of_ble_eq_true rfl) ?_
      exact a_iret C hlocks hret dL_act_78 rfl rfl
    · rw [v_do_none (o := (o_addLamp z a b)) h1]
      exact hq
theorem c_L_act_1 (hfl : l.stackTraces = false) (h : q_R B d z hs) (hB : B + 180 < 100000) (a b : Int32) : v_C l B d z hs (nI 1) a b (o_removeLamp z a) := by
  have hc := q_removeLamp hfl h hB a
  rcases hc with ⟨E, lv, h1, hE, hlv, hm⟩ | ⟨d1, lv, h1, hlv, hm, hq, hk⟩
  · refine ⟨d, fun G => ?_, ?_, q_k_refl d⟩
    · rw [v_do_some (o := (o_removeLamp z a)) h1]
      refine x_startH (cc := cL_act) (own := RL) (maxL := 5) (hh := x_hh) (by decide) rfl rfl (Nat.le_of_ble_eq_true rfl) rfl ?_
      intro p e s m args below meth c C hret hlocks hT
      refine a_iload_n C dL_act_0 1 rfl ?_
      refine a_tableIn C dL_act_1 (by decide +kernel) (by decide +kernel) (off := 78) (by decide +kernel) (tgt := 79) (by decide) ?_
      refine a_aload_n C dL_act_79 0 rfl ?_
      refine a_iload_n C dL_act_80 2 rfl ?_
      exact l_catch C hret hlocks hT hE 1 (by decide) (As := [.int a]) (hm G) (cwV 1 C.1.2.2.2.2 gL_act_X11_removeLamp rfl rfl rfl (by decide +kernel) ⟨by dsimp only [x_rm]; omega, by dsimp only [x_rm]; omega⟩) rfl rfl dL_act_81
    · rw [v_do_some (o := (o_removeLamp z a)) h1]
      exact q_R_up h (by omega)
  · refine ⟨d1, fun G => ?_, ?_, hk⟩
    · rw [v_do_none (o := (o_removeLamp z a)) h1]
      refine x_startH (cc := cL_act) (own := RL) (maxL := 5) (hh := x_hh) (by decide) rfl rfl (Nat.le_of_ble_eq_true rfl) rfl ?_
      intro p e s m args below meth c C hret hlocks hT
      refine a_iload_n C dL_act_0 1 rfl ?_
      refine a_tableIn C dL_act_1 (by decide +kernel) (by decide +kernel) (off := 78) (by decide +kernel) (tgt := 79) (by decide) ?_
      refine a_aload_n C dL_act_79 0 rfl ?_
      refine a_iload_n C dL_act_80 2 rfl ?_
      refine a_callV C (k := 0) (As := [.int a]) (rest := []) (hm G) (cwV 1 C.1.2.2.2.2 gL_act_X11_removeLamp rfl rfl rfl (by decide +kernel) ⟨by dsimp only [x_rm]; omega, by dsimp only [x_rm]; omega⟩) x_k0 (q := (RX11, TX11, 13)) rfl rfl rfl rfl (Nat.le_of_ble_eq_true rfl) dL_act_81 ⟨Nat.le_of_ble_eq_true rfl, Nat.le_of_ble_eq_true rfl⟩ ?_
      refine a_widen (k := 1) (n := 6) (Nat.le_of_ble_eq_true rfl) (Nat.le_of_ble_eq_true rfl) ?_
      exact a_iret C hlocks hret dL_act_84 rfl rfl
    · rw [v_do_none (o := (o_removeLamp z a)) h1]
      exact hq
theorem c_L_act_2 (hfl : l.stackTraces = false) (h : q_R B d z hs) (hB : B + 180 < 100000) (a b : Int32) : v_C l B d z hs (nI 2) a b (o_setShares z a b) := by
  have hc := q_setShares hfl h hB a b
  rcases hc with ⟨E, lv, h1, hE, hlv, hm⟩ | ⟨d1, lv, h1, hlv, hm, hq, hk⟩
  · refine ⟨d, fun G => ?_, ?_, q_k_refl d⟩
    · rw [v_do_some (o := (o_setShares z a b)) h1]
      refine x_startH (cc := cL_act) (own := RL) (maxL := 5) (hh := x_hh) (by decide) rfl rfl (Nat.le_of_ble_eq_true rfl) rfl ?_
      intro p e s m args below meth c C hret hlocks hT
      refine a_iload_n C dL_act_0 1 rfl ?_
      refine a_tableIn C dL_act_1 (by decide +kernel) (by decide +kernel) (off := 84) (by decide +kernel) (tgt := 85) (by decide) ?_
      refine a_aload_n C dL_act_85 0 rfl ?_
      refine a_iload_n C dL_act_86 2 rfl ?_
      refine a_iload_n C dL_act_87 3 rfl ?_
      exact l_catch C hret hlocks hT hE 2 (by decide) (As := [.int a, .int b]) (hm G) (cwV 2 C.1.2.2.2.2 gL_act_X11_setShares rfl rfl rfl (by decide +kernel) ⟨by dsimp only [x_rm]; omega, by dsimp only [x_rm]; omega⟩) rfl rfl dL_act_88
    · rw [v_do_some (o := (o_setShares z a b)) h1]
      exact q_R_up h (by omega)
  · refine ⟨d1, fun G => ?_, ?_, hk⟩
    · rw [v_do_none (o := (o_setShares z a b)) h1]
      refine x_startH (cc := cL_act) (own := RL) (maxL := 5) (hh := x_hh) (by decide) rfl rfl (Nat.le_of_ble_eq_true rfl) rfl ?_
      intro p e s m args below meth c C hret hlocks hT
      refine a_iload_n C dL_act_0 1 rfl ?_
      refine a_tableIn C dL_act_1 (by decide +kernel) (by decide +kernel) (off := 84) (by decide +kernel) (tgt := 85) (by decide) ?_
      refine a_aload_n C dL_act_85 0 rfl ?_
      refine a_iload_n C dL_act_86 2 rfl ?_
      refine a_iload_n C dL_act_87 3 rfl ?_
      refine a_callV C (k := 0) (As := [.int a, .int b]) (rest := []) (hm G) (cwV 2 C.1.2.2.2.2 gL_act_X11_setShares rfl rfl rfl (by decide +kernel) ⟨by dsimp only [x_rm]; omega, by dsimp only [x_rm]; omega⟩) x_k0 (q := (RX11, TX11, 13)) rfl rfl rfl rfl (Nat.le_of_ble_eq_true rfl) dL_act_88 ⟨Nat.le_of_ble_eq_true rfl, Nat.le_of_ble_eq_true rfl⟩ ?_
      refine a_widen (k := 1) (n := 6) (Nat.le_of_ble_eq_true rfl) (Nat.le_of_ble_eq_true rfl) ?_
      exact a_iret C hlocks hret dL_act_91 rfl rfl
    · rw [v_do_none (o := (o_setShares z a b)) h1]
      exact hq
theorem c_L_act_3 (hfl : l.stackTraces = false) (h : q_R B d z hs) (hB : B + 180 < 100000) (a b : Int32) : v_C l B d z hs (nI 3) a b (o_setBrightness z a b) := by
  have hc := q_setBrightness hfl h hB a b
  rcases hc with ⟨E, lv, h1, hE, hlv, hm⟩ | ⟨d1, lv, h1, hlv, hm, hq, hk⟩
  · refine ⟨d, fun G => ?_, ?_, q_k_refl d⟩
    · rw [v_do_some (o := (o_setBrightness z a b)) h1]
      refine x_startH (cc := cL_act) (own := RL) (maxL := 5) (hh := x_hh) (by decide) rfl rfl (Nat.le_of_ble_eq_true rfl) rfl ?_
      intro p e s m args below meth c C hret hlocks hT
      refine a_iload_n C dL_act_0 1 rfl ?_
      refine a_tableIn C dL_act_1 (by decide +kernel) (by decide +kernel) (off := 91) (by decide +kernel) (tgt := 92) (by decide) ?_
      refine a_aload_n C dL_act_92 0 rfl ?_
      refine a_iload_n C dL_act_93 2 rfl ?_
      refine a_iload_n C dL_act_94 3 rfl ?_
      exact l_catch C hret hlocks hT hE 3 (by decide) (As := [.int a, .int b]) (hm G) (cwV 2 C.1.2.2.2.2 gL_act_X11_setBrightness rfl rfl rfl (by decide +kernel) ⟨by dsimp only [x_rm]; omega, by dsimp only [x_rm]; omega⟩) rfl rfl dL_act_95
    · rw [v_do_some (o := (o_setBrightness z a b)) h1]
      exact q_R_up h (by omega)
  · refine ⟨d1, fun G => ?_, ?_, hk⟩
    · rw [v_do_none (o := (o_setBrightness z a b)) h1]
      refine x_startH (cc := cL_act) (own := RL) (maxL := 5) (hh := x_hh) (by decide) rfl rfl (Nat.le_of_ble_eq_true rfl) rfl ?_
      intro p e s m args below meth c C hret hlocks hT
      refine a_iload_n C dL_act_0 1 rfl ?_
      refine a_tableIn C dL_act_1 (by decide +kernel) (by decide +kernel) (off := 91) (by decide +kernel) (tgt := 92) (by decide) ?_
      refine a_aload_n C dL_act_92 0 rfl ?_
      refine a_iload_n C dL_act_93 2 rfl ?_
      refine a_iload_n C dL_act_94 3 rfl ?_
      refine a_callV C (k := 0) (As := [.int a, .int b]) (rest := []) (hm G) (cwV 2 C.1.2.2.2.2 gL_act_X11_setBrightness rfl rfl rfl (by decide +kernel) ⟨by dsimp only [x_rm]; omega, by dsimp only [x_rm]; omega⟩) x_k0 (q := (RX11, TX11, 13)) rfl rfl rfl rfl (Nat.le_of_ble_eq_true rfl) dL_act_95 ⟨Nat.le_of_ble_eq_true rfl, Nat.le_of_ble_eq_true rfl⟩ ?_
      refine a_widen (k := 1) (n := 6) (Nat.le_of_ble_eq_true rfl) (Nat.le_of_ble_eq_true rfl) ?_
      exact a_iret C hlocks hret dL_act_98 rfl rfl
    · rw [v_do_none (o := (o_setBrightness z a b)) h1]
      exact hq
theorem c_L_act_4n (hfl : l.stackTraces = false) (h : q_R B d z hs) (hB : B + 180 < 100000) (a : Int32) : v_C l B d z hs (nI 4) a 1 (o_bz (o_switchOn z a)) := by
  have hc := q_switchOn hfl h hB a
  rcases hc with ⟨E, lv, h1, hE, hlv, hm⟩ | ⟨d1, lv, h1, hlv, hm, hq, hk⟩
  · refine ⟨d, fun G => ?_, ?_, q_k_refl d⟩
    · rw [v_do_some (o := (o_bz (o_switchOn z a))) h1]
      refine x_startH (cc := cL_act) (own := RL) (maxL := 5) (hh := x_hh) (by decide) rfl rfl (Nat.le_of_ble_eq_true rfl) rfl ?_
      intro p e s m args below meth c C hret hlocks hT
      refine a_iload_n C dL_act_0 1 rfl ?_
      refine a_tableIn C dL_act_1 (by decide +kernel) (by decide +kernel) (off := 98) (by decide +kernel) (tgt := 99) (by decide) ?_
      refine a_iload_n C dL_act_99 3 rfl ?_
      refine a_iconst C dL_act_100 (v := 1) (by decide) ?_
      refine a_icmp_ne C dL_act_101 (tgt := 115) (by decide) (fun h => absurd rfl h) (fun _ => ?_)
      refine a_aload_n C dL_act_104 0 rfl ?_
      refine a_iload_n C dL_act_105 2 rfl ?_
      exact l_catch C hret hlocks hT hE 4 (by decide) (As := [.int a]) (hm G) (cwV 1 C.1.2.2.2.2 gL_act_X11_switchOn rfl rfl rfl (by decide +kernel) ⟨by dsimp only [x_rm]; omega, by dsimp only [x_rm]; omega⟩) rfl rfl dL_act_106
    · rw [v_do_some (o := (o_bz (o_switchOn z a))) h1]
      exact q_R_up h (by omega)
  · refine ⟨d1, fun G => ?_, ?_, hk⟩
    · rw [v_do_none (o := (o_bz (o_switchOn z a))) h1]
      refine x_startH (cc := cL_act) (own := RL) (maxL := 5) (hh := x_hh) (by decide) rfl rfl (Nat.le_of_ble_eq_true rfl) rfl ?_
      intro p e s m args below meth c C hret hlocks hT
      refine a_iload_n C dL_act_0 1 rfl ?_
      refine a_tableIn C dL_act_1 (by decide +kernel) (by decide +kernel) (off := 98) (by decide +kernel) (tgt := 99) (by decide) ?_
      refine a_iload_n C dL_act_99 3 rfl ?_
      refine a_iconst C dL_act_100 (v := 1) (by decide) ?_
      refine a_icmp_ne C dL_act_101 (tgt := 115) (by decide) (fun h => absurd rfl h) (fun _ => ?_)
      refine a_aload_n C dL_act_104 0 rfl ?_
      refine a_iload_n C dL_act_105 2 rfl ?_
      refine a_callV C (k := 0) (As := [.int a]) (rest := []) (hm G) (cwV 1 C.1.2.2.2.2 gL_act_X11_switchOn rfl rfl rfl (by decide +kernel) ⟨by dsimp only [x_rm]; omega, by dsimp only [x_rm]; omega⟩) x_k0 (q := (RX11, TX11, 13)) rfl rfl rfl rfl (Nat.le_of_ble_eq_true rfl) dL_act_106 ⟨Nat.le_of_ble_eq_true rfl, Nat.le_of_ble_eq_true rfl⟩ ?_
      refine a_widen (k := 1) (n := 6) (Nat.le_of_ble_eq_true rfl) (Nat.le_of_ble_eq_true rfl) ?_
      refine a_if_eq C dL_act_109 (tgt := 127) (by decide) (fun h9 => ?_) (fun h9 => ?_)
      · refine a_iconst C dL_act_127 (v := 0) (by decide) ?_
        exact a_iret C hlocks hret dL_act_128 (by show (0 : Int32) = x_bz (o_switchOn z a).2.1; unfold x_bz; rw [if_pos h9]) rfl
      · refine a_goto C dL_act_112 (tgt := 123) (by decide) ?_
        refine a_iconst C dL_act_123 (v := 1) (by decide) ?_
        refine a_goto C dL_act_124 (tgt := 128) (by decide) ?_
        exact a_iret C hlocks hret dL_act_128 (by show (1 : Int32) = x_bz (o_switchOn z a).2.1; unfold x_bz; rw [if_neg h9]) rfl
    · rw [v_do_none (o := (o_bz (o_switchOn z a))) h1]
      exact hq
theorem c_L_act_4f (hfl : l.stackTraces = false) (h : q_R B d z hs) (hB : B + 180 < 100000) (a b : Int32) (hb : ¬ b = 1) : v_C l B d z hs (nI 4) a b (o_bz (o_switchOff z a)) := by
  have hc := q_switchOff hfl h hB a
  rcases hc with ⟨E, lv, h1, hE, hlv, hm⟩ | ⟨d1, lv, h1, hlv, hm, hq, hk⟩
  · refine ⟨d, fun G => ?_, ?_, q_k_refl d⟩
    · rw [v_do_some (o := (o_bz (o_switchOff z a))) h1]
      refine x_startH (cc := cL_act) (own := RL) (maxL := 5) (hh := x_hh) (by decide) rfl rfl (Nat.le_of_ble_eq_true rfl) rfl ?_
      intro p e s m args below meth c C hret hlocks hT
      refine a_iload_n C dL_act_0 1 rfl ?_
      refine a_tableIn C dL_act_1 (by decide +kernel) (by decide +kernel) (off := 98) (by decide +kernel) (tgt := 99) (by decide) ?_
      refine a_iload_n C dL_act_99 3 rfl ?_
      refine a_iconst C dL_act_100 (v := 1) (by decide) ?_
      refine a_icmp_ne C dL_act_101 (tgt := 115) (by decide) (fun _ => ?_) (fun h => absurd h hb)
      refine a_aload_n C dL_act_115 0 rfl ?_
      refine a_iload_n C dL_act_116 2 rfl ?_
      exact l_catch C hret hlocks hT hE 4 (by decide) (As := [.int a]) (hm G) (cwV 1 C.1.2.2.2.2 gL_act_X11_switchOff rfl rfl rfl (by decide +kernel) ⟨by dsimp only [x_rm]; omega, by dsimp only [x_rm]; omega⟩) rfl rfl dL_act_117
    · rw [v_do_some (o := (o_bz (o_switchOff z a))) h1]
      exact q_R_up h (by omega)
  · refine ⟨d1, fun G => ?_, ?_, hk⟩
    · rw [v_do_none (o := (o_bz (o_switchOff z a))) h1]
      refine x_startH (cc := cL_act) (own := RL) (maxL := 5) (hh := x_hh) (by decide) rfl rfl (Nat.le_of_ble_eq_true rfl) rfl ?_
      intro p e s m args below meth c C hret hlocks hT
      refine a_iload_n C dL_act_0 1 rfl ?_
      refine a_tableIn C dL_act_1 (by decide +kernel) (by decide +kernel) (off := 98) (by decide +kernel) (tgt := 99) (by decide) ?_
      refine a_iload_n C dL_act_99 3 rfl ?_
      refine a_iconst C dL_act_100 (v := 1) (by decide) ?_
      refine a_icmp_ne C dL_act_101 (tgt := 115) (by decide) (fun _ => ?_) (fun h => absurd h hb)
      refine a_aload_n C dL_act_115 0 rfl ?_
      refine a_iload_n C dL_act_116 2 rfl ?_
      refine a_callV C (k := 0) (As := [.int a]) (rest := []) (hm G) (cwV 1 C.1.2.2.2.2 gL_act_X11_switchOff rfl rfl rfl (by decide +kernel) ⟨by dsimp only [x_rm]; omega, by dsimp only [x_rm]; omega⟩) x_k0 (q := (RX11, TX11, 13)) rfl rfl rfl rfl (Nat.le_of_ble_eq_true rfl) dL_act_117 ⟨Nat.le_of_ble_eq_true rfl, Nat.le_of_ble_eq_true rfl⟩ ?_
      refine a_widen (k := 1) (n := 6) (Nat.le_of_ble_eq_true rfl) (Nat.le_of_ble_eq_true rfl) ?_
      refine a_if_eq C dL_act_120 (tgt := 127) (by decide) (fun h9 => ?_) (fun h9 => ?_)
      · refine a_iconst C dL_act_127 (v := 0) (by decide) ?_
        exact a_iret C hlocks hret dL_act_128 (by show (0 : Int32) = x_bz (o_switchOff z a).2.1; unfold x_bz; rw [if_pos h9]) rfl
      · refine a_iconst C dL_act_123 (v := 1) (by decide) ?_
        refine a_goto C dL_act_124 (tgt := 128) (by decide) ?_
        exact a_iret C hlocks hret dL_act_128 (by show (1 : Int32) = x_bz (o_switchOff z a).2.1; unfold x_bz; rw [if_neg h9]) rfl
    · rw [v_do_none (o := (o_bz (o_switchOff z a))) h1]
      exact hq
theorem c_L_act_5 (hfl : l.stackTraces = false) (h : q_R B d z hs) (hB : B + 180 < 100000) (a b : Int32) : v_C l B d z hs (nI 5) a b (o_deliverOil z a) := by
  have hc := q_deliverOil hfl h hB a
  rcases hc with ⟨E, lv, h1, hE, hlv, hm⟩ | ⟨d1, lv, h1, hlv, hm, hq, hk⟩
  · refine ⟨d, fun G => ?_, ?_, q_k_refl d⟩
    · rw [v_do_some (o := (o_deliverOil z a)) h1]
      refine x_startH (cc := cL_act) (own := RL) (maxL := 5) (hh := x_hh) (by decide) rfl rfl (Nat.le_of_ble_eq_true rfl) rfl ?_
      intro p e s m args below meth c C hret hlocks hT
      refine a_iload_n C dL_act_0 1 rfl ?_
      refine a_tableIn C dL_act_1 (by decide +kernel) (by decide +kernel) (off := 128) (by decide +kernel) (tgt := 129) (by decide) ?_
      refine a_aload_n C dL_act_129 0 rfl ?_
      refine a_iload_n C dL_act_130 2 rfl ?_
      exact l_catch C hret hlocks hT hE 5 (by decide) (As := [.int a]) (hm G) (cwV 1 C.1.2.2.2.2 gL_act_X11_deliverOil rfl rfl rfl (by decide +kernel) ⟨by dsimp only [x_rm]; omega, by dsimp only [x_rm]; omega⟩) rfl rfl dL_act_131
    · rw [v_do_some (o := (o_deliverOil z a)) h1]
      exact q_R_up h (by omega)
  · refine ⟨d1, fun G => ?_, ?_, hk⟩
    · rw [v_do_none (o := (o_deliverOil z a)) h1]
      refine x_startH (cc := cL_act) (own := RL) (maxL := 5) (hh := x_hh) (by decide) rfl rfl (Nat.le_of_ble_eq_true rfl) rfl ?_
      intro p e s m args below meth c C hret hlocks hT
      refine a_iload_n C dL_act_0 1 rfl ?_
      refine a_tableIn C dL_act_1 (by decide +kernel) (by decide +kernel) (off := 128) (by decide +kernel) (tgt := 129) (by decide) ?_
      refine a_aload_n C dL_act_129 0 rfl ?_
      refine a_iload_n C dL_act_130 2 rfl ?_
      refine a_callV C (k := 0) (As := [.int a]) (rest := []) (hm G) (cwV 1 C.1.2.2.2.2 gL_act_X11_deliverOil rfl rfl rfl (by decide +kernel) ⟨by dsimp only [x_rm]; omega, by dsimp only [x_rm]; omega⟩) x_k0 (q := (RX11, TX11, 13)) rfl rfl rfl rfl (Nat.le_of_ble_eq_true rfl) dL_act_131 ⟨Nat.le_of_ble_eq_true rfl, Nat.le_of_ble_eq_true rfl⟩ ?_
      refine a_widen (k := 1) (n := 6) (Nat.le_of_ble_eq_true rfl) (Nat.le_of_ble_eq_true rfl) ?_
      exact a_iret C hlocks hret dL_act_134 rfl rfl
    · rw [v_do_none (o := (o_deliverOil z a)) h1]
      exact hq
theorem c_L_act_6 (hfl : l.stackTraces = false) (h : q_R B d z hs) (hB : B + 180 < 100000) (a b : Int32) : v_C l B d z hs (nI 6) a b (o_donateWicks z a) := by
  have hc := q_donateWicks hfl h hB a
  rcases hc with ⟨E, lv, h1, hE, hlv, hm⟩ | ⟨d1, lv, h1, hlv, hm, hq, hk⟩
  · refine ⟨d, fun G => ?_, ?_, q_k_refl d⟩
    · rw [v_do_some (o := (o_donateWicks z a)) h1]
      refine x_startH (cc := cL_act) (own := RL) (maxL := 5) (hh := x_hh) (by decide) rfl rfl (Nat.le_of_ble_eq_true rfl) rfl ?_
      intro p e s m args below meth c C hret hlocks hT
      refine a_iload_n C dL_act_0 1 rfl ?_
      refine a_tableIn C dL_act_1 (by decide +kernel) (by decide +kernel) (off := 134) (by decide +kernel) (tgt := 135) (by decide) ?_
      refine a_aload_n C dL_act_135 0 rfl ?_
      refine a_iload_n C dL_act_136 2 rfl ?_
      exact l_catch C hret hlocks hT hE 6 (by decide) (As := [.int a]) (hm G) (cwV 1 C.1.2.2.2.2 gL_act_X11_donateWicks rfl rfl rfl (by decide +kernel) ⟨by dsimp only [x_rm]; omega, by dsimp only [x_rm]; omega⟩) rfl rfl dL_act_137
    · rw [v_do_some (o := (o_donateWicks z a)) h1]
      exact q_R_up h (by omega)
  · refine ⟨d1, fun G => ?_, ?_, hk⟩
    · rw [v_do_none (o := (o_donateWicks z a)) h1]
      refine x_startH (cc := cL_act) (own := RL) (maxL := 5) (hh := x_hh) (by decide) rfl rfl (Nat.le_of_ble_eq_true rfl) rfl ?_
      intro p e s m args below meth c C hret hlocks hT
      refine a_iload_n C dL_act_0 1 rfl ?_
      refine a_tableIn C dL_act_1 (by decide +kernel) (by decide +kernel) (off := 134) (by decide +kernel) (tgt := 135) (by decide) ?_
      refine a_aload_n C dL_act_135 0 rfl ?_
      refine a_iload_n C dL_act_136 2 rfl ?_
      refine a_callV C (k := 0) (As := [.int a]) (rest := []) (hm G) (cwV 1 C.1.2.2.2.2 gL_act_X11_donateWicks rfl rfl rfl (by decide +kernel) ⟨by dsimp only [x_rm]; omega, by dsimp only [x_rm]; omega⟩) x_k0 (q := (RX11, TX11, 13)) rfl rfl rfl rfl (Nat.le_of_ble_eq_true rfl) dL_act_137 ⟨Nat.le_of_ble_eq_true rfl, Nat.le_of_ble_eq_true rfl⟩ ?_
      refine a_widen (k := 1) (n := 6) (Nat.le_of_ble_eq_true rfl) (Nat.le_of_ble_eq_true rfl) ?_
      exact a_iret C hlocks hret dL_act_140 rfl rfl
    · rw [v_do_none (o := (o_donateWicks z a)) h1]
      exact hq
theorem c_L_act_7 (hfl : l.stackTraces = false) (h : q_R B d z hs) (hB : B + 180 < 100000) (a b : Int32) : v_C l B d z hs (nI 7) a b (o_giveWick z a b) := by
  have hc := q_giveWick hfl h hB a b
  rcases hc with ⟨E, lv, h1, hE, hlv, hm⟩ | ⟨d1, lv, h1, hlv, hm, hq, hk⟩
  · refine ⟨d, fun G => ?_, ?_, q_k_refl d⟩
    · rw [v_do_some (o := (o_giveWick z a b)) h1]
      refine x_startH (cc := cL_act) (own := RL) (maxL := 5) (hh := x_hh) (by decide) rfl rfl (Nat.le_of_ble_eq_true rfl) rfl ?_
      intro p e s m args below meth c C hret hlocks hT
      refine a_iload_n C dL_act_0 1 rfl ?_
      refine a_tableIn C dL_act_1 (by decide +kernel) (by decide +kernel) (off := 140) (by decide +kernel) (tgt := 141) (by decide) ?_
      refine a_aload_n C dL_act_141 0 rfl ?_
      refine a_iload_n C dL_act_142 2 rfl ?_
      refine a_iload_n C dL_act_143 3 rfl ?_
      exact l_catch C hret hlocks hT hE 7 (by decide) (As := [.int a, .int b]) (hm G) (cwV 2 C.1.2.2.2.2 gL_act_X11_giveWick rfl rfl rfl (by decide +kernel) ⟨by dsimp only [x_rm]; omega, by dsimp only [x_rm]; omega⟩) rfl rfl dL_act_144
    · rw [v_do_some (o := (o_giveWick z a b)) h1]
      exact q_R_up h (by omega)
  · refine ⟨d1, fun G => ?_, ?_, hk⟩
    · rw [v_do_none (o := (o_giveWick z a b)) h1]
      refine x_startH (cc := cL_act) (own := RL) (maxL := 5) (hh := x_hh) (by decide) rfl rfl (Nat.le_of_ble_eq_true rfl) rfl ?_
      intro p e s m args below meth c C hret hlocks hT
      refine a_iload_n C dL_act_0 1 rfl ?_
      refine a_tableIn C dL_act_1 (by decide +kernel) (by decide +kernel) (off := 140) (by decide +kernel) (tgt := 141) (by decide) ?_
      refine a_aload_n C dL_act_141 0 rfl ?_
      refine a_iload_n C dL_act_142 2 rfl ?_
      refine a_iload_n C dL_act_143 3 rfl ?_
      refine a_callV C (k := 0) (As := [.int a, .int b]) (rest := []) (hm G) (cwV 2 C.1.2.2.2.2 gL_act_X11_giveWick rfl rfl rfl (by decide +kernel) ⟨by dsimp only [x_rm]; omega, by dsimp only [x_rm]; omega⟩) x_k0 (q := (RX11, TX11, 13)) rfl rfl rfl rfl (Nat.le_of_ble_eq_true rfl) dL_act_144 ⟨Nat.le_of_ble_eq_true rfl, Nat.le_of_ble_eq_true rfl⟩ ?_
      refine a_widen (k := 1) (n := 6) (Nat.le_of_ble_eq_true rfl) (Nat.le_of_ble_eq_true rfl) ?_
      exact a_iret C hlocks hret dL_act_147 rfl rfl
    · rw [v_do_none (o := (o_giveWick z a b)) h1]
      exact hq
theorem c_L_act_8 (hfl : l.stackTraces = false) (h : q_R B d z hs) (hB : B + 180 < 100000) (a b : Int32) : v_C l B d z hs (nI 8) a b (o_returnWick z a b) := by
  have hc := q_returnWick hfl h hB a b
  rcases hc with ⟨E, lv, h1, hE, hlv, hm⟩ | ⟨d1, lv, h1, hlv, hm, hq, hk⟩
  · refine ⟨d, fun G => ?_, ?_, q_k_refl d⟩
    · rw [v_do_some (o := (o_returnWick z a b)) h1]
      refine x_startH (cc := cL_act) (own := RL) (maxL := 5) (hh := x_hh) (by decide) rfl rfl (Nat.le_of_ble_eq_true rfl) rfl ?_
      intro p e s m args below meth c C hret hlocks hT
      refine a_iload_n C dL_act_0 1 rfl ?_
      refine a_tableIn C dL_act_1 (by decide +kernel) (by decide +kernel) (off := 147) (by decide +kernel) (tgt := 148) (by decide) ?_
      refine a_aload_n C dL_act_148 0 rfl ?_
      refine a_iload_n C dL_act_149 2 rfl ?_
      refine a_iload_n C dL_act_150 3 rfl ?_
      exact l_catch C hret hlocks hT hE 8 (by decide) (As := [.int a, .int b]) (hm G) (cwV 2 C.1.2.2.2.2 gL_act_X11_returnWick rfl rfl rfl (by decide +kernel) ⟨by dsimp only [x_rm]; omega, by dsimp only [x_rm]; omega⟩) rfl rfl dL_act_151
    · rw [v_do_some (o := (o_returnWick z a b)) h1]
      exact q_R_up h (by omega)
  · refine ⟨d1, fun G => ?_, ?_, hk⟩
    · rw [v_do_none (o := (o_returnWick z a b)) h1]
      refine x_startH (cc := cL_act) (own := RL) (maxL := 5) (hh := x_hh) (by decide) rfl rfl (Nat.le_of_ble_eq_true rfl) rfl ?_
      intro p e s m args below meth c C hret hlocks hT
      refine a_iload_n C dL_act_0 1 rfl ?_
      refine a_tableIn C dL_act_1 (by decide +kernel) (by decide +kernel) (off := 147) (by decide +kernel) (tgt := 148) (by decide) ?_
      refine a_aload_n C dL_act_148 0 rfl ?_
      refine a_iload_n C dL_act_149 2 rfl ?_
      refine a_iload_n C dL_act_150 3 rfl ?_
      refine a_callV C (k := 0) (As := [.int a, .int b]) (rest := []) (hm G) (cwV 2 C.1.2.2.2.2 gL_act_X11_returnWick rfl rfl rfl (by decide +kernel) ⟨by dsimp only [x_rm]; omega, by dsimp only [x_rm]; omega⟩) x_k0 (q := (RX11, TX11, 13)) rfl rfl rfl rfl (Nat.le_of_ble_eq_true rfl) dL_act_151 ⟨Nat.le_of_ble_eq_true rfl, Nat.le_of_ble_eq_true rfl⟩ ?_
      refine a_widen (k := 1) (n := 6) (Nat.le_of_ble_eq_true rfl) (Nat.le_of_ble_eq_true rfl) ?_
      exact a_iret C hlocks hret dL_act_154 rfl rfl
    · rw [v_do_none (o := (o_returnWick z a b)) h1]
      exact hq
theorem c_L_act_9 (hfl : l.stackTraces = false) (h : q_R B d z hs) (hB : B + 180 < 100000) (a b : Int32) : v_C l B d z hs (nI 9) a b (o_addMoth z a) := by
  have hc := q_addMoth hfl h hB a
  rcases hc with ⟨E, lv, h1, hE, hlv, hm⟩ | ⟨d1, lv, h1, hlv, hm, hq, hk⟩
  · refine ⟨d, fun G => ?_, ?_, q_k_refl d⟩
    · rw [v_do_some (o := (o_addMoth z a)) h1]
      refine x_startH (cc := cL_act) (own := RL) (maxL := 5) (hh := x_hh) (by decide) rfl rfl (Nat.le_of_ble_eq_true rfl) rfl ?_
      intro p e s m args below meth c C hret hlocks hT
      refine a_iload_n C dL_act_0 1 rfl ?_
      refine a_tableIn C dL_act_1 (by decide +kernel) (by decide +kernel) (off := 154) (by decide +kernel) (tgt := 155) (by decide) ?_
      refine a_aload_n C dL_act_155 0 rfl ?_
      refine a_iload_n C dL_act_156 2 rfl ?_
      exact l_catch C hret hlocks hT hE 9 (by decide) (As := [.int a]) (hm G) (cwV 1 C.1.2.2.2.2 gL_act_X11_addMoth rfl rfl rfl (by decide +kernel) ⟨by dsimp only [x_rm]; omega, by dsimp only [x_rm]; omega⟩) rfl rfl dL_act_157
    · rw [v_do_some (o := (o_addMoth z a)) h1]
      exact q_R_up h (by omega)
  · refine ⟨d1, fun G => ?_, ?_, hk⟩
    · rw [v_do_none (o := (o_addMoth z a)) h1]
      refine x_startH (cc := cL_act) (own := RL) (maxL := 5) (hh := x_hh) (by decide) rfl rfl (Nat.le_of_ble_eq_true rfl) rfl ?_
      intro p e s m args below meth c C hret hlocks hT
      refine a_iload_n C dL_act_0 1 rfl ?_
      refine a_tableIn C dL_act_1 (by decide +kernel) (by decide +kernel) (off := 154) (by decide +kernel) (tgt := 155) (by decide) ?_
      refine a_aload_n C dL_act_155 0 rfl ?_
      refine a_iload_n C dL_act_156 2 rfl ?_
      refine a_callV C (k := 0) (As := [.int a]) (rest := []) (hm G) (cwV 1 C.1.2.2.2.2 gL_act_X11_addMoth rfl rfl rfl (by decide +kernel) ⟨by dsimp only [x_rm]; omega, by dsimp only [x_rm]; omega⟩) x_k0 (q := (RX11, TX11, 13)) rfl rfl rfl rfl (Nat.le_of_ble_eq_true rfl) dL_act_157 ⟨Nat.le_of_ble_eq_true rfl, Nat.le_of_ble_eq_true rfl⟩ ?_
      refine a_widen (k := 1) (n := 6) (Nat.le_of_ble_eq_true rfl) (Nat.le_of_ble_eq_true rfl) ?_
      exact a_iret C hlocks hret dL_act_160 rfl rfl
    · rw [v_do_none (o := (o_addMoth z a)) h1]
      exact hq
theorem c_L_act_10 (hfl : l.stackTraces = false) (h : q_R B d z hs) (hB : B + 180 < 100000) (a b : Int32) : v_C l B d z hs (nI 10) a b (o_moveMoth z a b) := by
  have hc := q_moveMoth hfl h hB a b
  rcases hc with ⟨E, lv, h1, hE, hlv, hm⟩ | ⟨d1, lv, h1, hlv, hm, hq, hk⟩
  · refine ⟨d, fun G => ?_, ?_, q_k_refl d⟩
    · rw [v_do_some (o := (o_moveMoth z a b)) h1]
      refine x_startH (cc := cL_act) (own := RL) (maxL := 5) (hh := x_hh) (by decide) rfl rfl (Nat.le_of_ble_eq_true rfl) rfl ?_
      intro p e s m args below meth c C hret hlocks hT
      refine a_iload_n C dL_act_0 1 rfl ?_
      refine a_tableIn C dL_act_1 (by decide +kernel) (by decide +kernel) (off := 160) (by decide +kernel) (tgt := 161) (by decide) ?_
      refine a_aload_n C dL_act_161 0 rfl ?_
      refine a_iload_n C dL_act_162 2 rfl ?_
      refine a_iload_n C dL_act_163 3 rfl ?_
      exact l_catch C hret hlocks hT hE 10 (by decide) (As := [.int a, .int b]) (hm G) (cwV 2 C.1.2.2.2.2 gL_act_X11_moveMoth rfl rfl rfl (by decide +kernel) ⟨by dsimp only [x_rm]; omega, by dsimp only [x_rm]; omega⟩) rfl rfl dL_act_164
    · rw [v_do_some (o := (o_moveMoth z a b)) h1]
      exact q_R_up h (by omega)
  · refine ⟨d1, fun G => ?_, ?_, hk⟩
    · rw [v_do_none (o := (o_moveMoth z a b)) h1]
      refine x_startH (cc := cL_act) (own := RL) (maxL := 5) (hh := x_hh) (by decide) rfl rfl (Nat.le_of_ble_eq_true rfl) rfl ?_
      intro p e s m args below meth c C hret hlocks hT
      refine a_iload_n C dL_act_0 1 rfl ?_
      refine a_tableIn C dL_act_1 (by decide +kernel) (by decide +kernel) (off := 160) (by decide +kernel) (tgt := 161) (by decide) ?_
      refine a_aload_n C dL_act_161 0 rfl ?_
      refine a_iload_n C dL_act_162 2 rfl ?_
      refine a_iload_n C dL_act_163 3 rfl ?_
      refine a_callV C (k := 0) (As := [.int a, .int b]) (rest := []) (hm G) (cwV 2 C.1.2.2.2.2 gL_act_X11_moveMoth rfl rfl rfl (by decide +kernel) ⟨by dsimp only [x_rm]; omega, by dsimp only [x_rm]; omega⟩) x_k0 (q := (RX11, TX11, 13)) rfl rfl rfl rfl (Nat.le_of_ble_eq_true rfl) dL_act_164 ⟨Nat.le_of_ble_eq_true rfl, Nat.le_of_ble_eq_true rfl⟩ ?_
      refine a_widen (k := 1) (n := 6) (Nat.le_of_ble_eq_true rfl) (Nat.le_of_ble_eq_true rfl) ?_
      exact a_iret C hlocks hret dL_act_167 rfl rfl
    · rw [v_do_none (o := (o_moveMoth z a b)) h1]
      exact hq
theorem c_L_act_11 (hfl : l.stackTraces = false) (h : q_R B d z hs) (hB : B + 180 < 100000) (a b : Int32) : v_C l B d z hs (nI 11) a b (o_bz (o_proposeCap z a)) := by
  have hc := q_proposeCap hfl h hB a
  rcases hc with ⟨E, lv, h1, hE, hlv, hm⟩ | ⟨d1, lv, h1, hlv, hm, hq, hk⟩
  · refine ⟨d, fun G => ?_, ?_, q_k_refl d⟩
    · rw [v_do_some (o := (o_bz (o_proposeCap z a))) h1]
      refine x_startH (cc := cL_act) (own := RL) (maxL := 5) (hh := x_hh) (by decide) rfl rfl (Nat.le_of_ble_eq_true rfl) rfl ?_
      intro p e s m args below meth c C hret hlocks hT
      refine a_iload_n C dL_act_0 1 rfl ?_
      refine a_tableIn C dL_act_1 (by decide +kernel) (by decide +kernel) (off := 167) (by decide +kernel) (tgt := 168) (by decide) ?_
      refine a_aload_n C dL_act_168 0 rfl ?_
      refine a_iload_n C dL_act_169 2 rfl ?_
      exact l_catch C hret hlocks hT hE 11 (by decide) (As := [.int a]) (hm G) (cwV 1 C.1.2.2.2.2 gL_act_X11_proposeCap rfl rfl rfl (by decide +kernel) ⟨by dsimp only [x_rm]; omega, by dsimp only [x_rm]; omega⟩) rfl rfl dL_act_170
    · rw [v_do_some (o := (o_bz (o_proposeCap z a))) h1]
      exact q_R_up h (by omega)
  · refine ⟨d1, fun G => ?_, ?_, hk⟩
    · rw [v_do_none (o := (o_bz (o_proposeCap z a))) h1]
      refine x_startH (cc := cL_act) (own := RL) (maxL := 5) (hh := x_hh) (by decide) rfl rfl (Nat.le_of_ble_eq_true rfl) rfl ?_
      intro p e s m args below meth c C hret hlocks hT
      refine a_iload_n C dL_act_0 1 rfl ?_
      refine a_tableIn C dL_act_1 (by decide +kernel) (by decide +kernel) (off := 167) (by decide +kernel) (tgt := 168) (by decide) ?_
      refine a_aload_n C dL_act_168 0 rfl ?_
      refine a_iload_n C dL_act_169 2 rfl ?_
      refine a_callV C (k := 0) (As := [.int a]) (rest := []) (hm G) (cwV 1 C.1.2.2.2.2 gL_act_X11_proposeCap rfl rfl rfl (by decide +kernel) ⟨by dsimp only [x_rm]; omega, by dsimp only [x_rm]; omega⟩) x_k0 (q := (RX11, TX11, 13)) rfl rfl rfl rfl (Nat.le_of_ble_eq_true rfl) dL_act_170 ⟨Nat.le_of_ble_eq_true rfl, Nat.le_of_ble_eq_true rfl⟩ ?_
      refine a_widen (k := 1) (n := 6) (Nat.le_of_ble_eq_true rfl) (Nat.le_of_ble_eq_true rfl) ?_
      refine a_if_eq C dL_act_173 (tgt := 180) (by decide) (fun h9 => ?_) (fun h9 => ?_)
      · refine a_iconst C dL_act_180 (v := 0) (by decide) ?_
        exact a_iret C hlocks hret dL_act_181 (by show (0 : Int32) = x_bz (o_proposeCap z a).2.1; unfold x_bz; rw [if_pos h9]) rfl
      · refine a_iconst C dL_act_176 (v := 1) (by decide) ?_
        refine a_goto C dL_act_177 (tgt := 181) (by decide) ?_
        exact a_iret C hlocks hret dL_act_181 (by show (1 : Int32) = x_bz (o_proposeCap z a).2.1; unfold x_bz; rw [if_neg h9]) rfl
    · rw [v_do_none (o := (o_bz (o_proposeCap z a))) h1]
      exact hq
theorem c_L_act_12 (hfl : l.stackTraces = false) (h : q_R B d z hs) (hB : B + 180 < 100000) (a b : Int32) : v_C l B d z hs (nI 12) a b (o_burnNight z) := by
  have hc := q_burnNight hfl h hB
  rcases hc with ⟨E, lv, h1, hE, hlv, hm⟩ | ⟨d1, lv, h1, hlv, hm, hq, hk⟩
  · refine ⟨d, fun G => ?_, ?_, q_k_refl d⟩
    · rw [v_do_some (o := (o_burnNight z)) h1]
      refine x_startH (cc := cL_act) (own := RL) (maxL := 5) (hh := x_hh) (by decide) rfl rfl (Nat.le_of_ble_eq_true rfl) rfl ?_
      intro p e s m args below meth c C hret hlocks hT
      refine a_iload_n C dL_act_0 1 rfl ?_
      refine a_tableIn C dL_act_1 (by decide +kernel) (by decide +kernel) (off := 181) (by decide +kernel) (tgt := 182) (by decide) ?_
      refine a_aload_n C dL_act_182 0 rfl ?_
      exact l_catch C hret hlocks hT hE 12 (by decide) (As := []) (hm G) (cwV 0 C.1.2.2.2.2 gL_act_X11_burnNight rfl rfl rfl (by decide +kernel) ⟨by dsimp only [x_rm]; omega, by dsimp only [x_rm]; omega⟩) rfl rfl dL_act_183
    · rw [v_do_some (o := (o_burnNight z)) h1]
      exact q_R_up h (by omega)
  · refine ⟨d1, fun G => ?_, ?_, hk⟩
    · rw [v_do_none (o := (o_burnNight z)) h1]
      refine x_startH (cc := cL_act) (own := RL) (maxL := 5) (hh := x_hh) (by decide) rfl rfl (Nat.le_of_ble_eq_true rfl) rfl ?_
      intro p e s m args below meth c C hret hlocks hT
      refine a_iload_n C dL_act_0 1 rfl ?_
      refine a_tableIn C dL_act_1 (by decide +kernel) (by decide +kernel) (off := 181) (by decide +kernel) (tgt := 182) (by decide) ?_
      refine a_aload_n C dL_act_182 0 rfl ?_
      refine a_callV C (k := 0) (As := []) (rest := []) (hm G) (cwV 0 C.1.2.2.2.2 gL_act_X11_burnNight rfl rfl rfl (by decide +kernel) ⟨by dsimp only [x_rm]; omega, by dsimp only [x_rm]; omega⟩) x_k0 (q := (RX11, TX11, 13)) rfl rfl rfl rfl (Nat.le_of_ble_eq_true rfl) dL_act_183 ⟨Nat.le_of_ble_eq_true rfl, Nat.le_of_ble_eq_true rfl⟩ ?_
      refine a_widen (k := 1) (n := 6) (Nat.le_of_ble_eq_true rfl) (Nat.le_of_ble_eq_true rfl) ?_
      exact a_iret C hlocks hret dL_act_186 rfl rfl
    · rw [v_do_none (o := (o_burnNight z)) h1]
      exact hq
theorem c_L_act_13 (hfl : l.stackTraces = false) (h : q_R B d z hs) (hB : B + 180 < 100000) (a b : Int32) : v_C l B d z hs (nI 13) a b (o_payDividend z) := by
  have hc := q_payDividend hfl h hB
  rcases hc with ⟨E, lv, h1, hE, hlv, hm⟩ | ⟨d1, lv, h1, hlv, hm, hq, hk⟩
  · refine ⟨d, fun G => ?_, ?_, q_k_refl d⟩
    · rw [v_do_some (o := (o_payDividend z)) h1]
      refine x_startH (cc := cL_act) (own := RL) (maxL := 5) (hh := x_hh) (by decide) rfl rfl (Nat.le_of_ble_eq_true rfl) rfl ?_
      intro p e s m args below meth c C hret hlocks hT
      refine a_iload_n C dL_act_0 1 rfl ?_
      refine a_tableIn C dL_act_1 (by decide +kernel) (by decide +kernel) (off := 186) (by decide +kernel) (tgt := 187) (by decide) ?_
      refine a_aload_n C dL_act_187 0 rfl ?_
      exact l_catch C hret hlocks hT hE 13 (by decide) (As := []) (hm G) (cwV 0 C.1.2.2.2.2 gL_act_X11_payDividend rfl rfl rfl (by decide +kernel) ⟨by dsimp only [x_rm]; omega, by dsimp only [x_rm]; omega⟩) rfl rfl dL_act_188
    · rw [v_do_some (o := (o_payDividend z)) h1]
      exact q_R_up h (by omega)
  · refine ⟨d1, fun G => ?_, ?_, hk⟩
    · rw [v_do_none (o := (o_payDividend z)) h1]
      refine x_startH (cc := cL_act) (own := RL) (maxL := 5) (hh := x_hh) (by decide) rfl rfl (Nat.le_of_ble_eq_true rfl) rfl ?_
      intro p e s m args below meth c C hret hlocks hT
      refine a_iload_n C dL_act_0 1 rfl ?_
      refine a_tableIn C dL_act_1 (by decide +kernel) (by decide +kernel) (off := 186) (by decide +kernel) (tgt := 187) (by decide) ?_
      refine a_aload_n C dL_act_187 0 rfl ?_
      refine a_callV C (k := 0) (As := []) (rest := []) (hm G) (cwV 0 C.1.2.2.2.2 gL_act_X11_payDividend rfl rfl rfl (by decide +kernel) ⟨by dsimp only [x_rm]; omega, by dsimp only [x_rm]; omega⟩) x_k0 (q := (RX11, TX11, 13)) rfl rfl rfl rfl (Nat.le_of_ble_eq_true rfl) dL_act_188 ⟨Nat.le_of_ble_eq_true rfl, Nat.le_of_ble_eq_true rfl⟩ ?_
      refine a_widen (k := 1) (n := 6) (Nat.le_of_ble_eq_true rfl) (Nat.le_of_ble_eq_true rfl) ?_
      exact a_iret C hlocks hret dL_act_191 rfl rfl
    · rw [v_do_none (o := (o_payDividend z)) h1]
      exact hq
theorem c_L_act_14 (hfl : l.stackTraces = false) (h : q_R B d z hs) (hB : B + 180 < 100000) (a b : Int32) : v_C l B d z hs (nI 14) a b (o_buyOil z a b) := by
  have hc := q_buyOil hfl h hB a b
  rcases hc with ⟨E, lv, h1, hE, hlv, hm⟩ | ⟨d1, lv, h1, hlv, hm, hq, hk⟩
  · refine ⟨d, fun G => ?_, ?_, q_k_refl d⟩
    · rw [v_do_some (o := (o_buyOil z a b)) h1]
      refine x_startH (cc := cL_act) (own := RL) (maxL := 5) (hh := x_hh) (by decide) rfl rfl (Nat.le_of_ble_eq_true rfl) rfl ?_
      intro p e s m args below meth c C hret hlocks hT
      refine a_iload_n C dL_act_0 1 rfl ?_
      refine a_tableOut C dL_act_1 (Or.inr (by decide +kernel)) (tgt := 192) (by decide) ?_
      refine a_aload_n C dL_act_192 0 rfl ?_
      refine a_iload_n C dL_act_193 2 rfl ?_
      refine a_iload_n C dL_act_194 3 rfl ?_
      exact l_catch C hret hlocks hT hE 14 (by decide) (As := [.int a, .int b]) (hm G) (cwV 2 C.1.2.2.2.2 gL_act_X11_buyOil rfl rfl rfl (by decide +kernel) ⟨by dsimp only [x_rm]; omega, by dsimp only [x_rm]; omega⟩) rfl rfl dL_act_195
    · rw [v_do_some (o := (o_buyOil z a b)) h1]
      exact q_R_up h (by omega)
  · refine ⟨d1, fun G => ?_, ?_, hk⟩
    · rw [v_do_none (o := (o_buyOil z a b)) h1]
      refine x_startH (cc := cL_act) (own := RL) (maxL := 5) (hh := x_hh) (by decide) rfl rfl (Nat.le_of_ble_eq_true rfl) rfl ?_
      intro p e s m args below meth c C hret hlocks hT
      refine a_iload_n C dL_act_0 1 rfl ?_
      refine a_tableOut C dL_act_1 (Or.inr (by decide +kernel)) (tgt := 192) (by decide) ?_
      refine a_aload_n C dL_act_192 0 rfl ?_
      refine a_iload_n C dL_act_193 2 rfl ?_
      refine a_iload_n C dL_act_194 3 rfl ?_
      refine a_callV C (k := 0) (As := [.int a, .int b]) (rest := []) (hm G) (cwV 2 C.1.2.2.2.2 gL_act_X11_buyOil rfl rfl rfl (by decide +kernel) ⟨by dsimp only [x_rm]; omega, by dsimp only [x_rm]; omega⟩) x_k0 (q := (RX11, TX11, 13)) rfl rfl rfl rfl (Nat.le_of_ble_eq_true rfl) dL_act_195 ⟨Nat.le_of_ble_eq_true rfl, Nat.le_of_ble_eq_true rfl⟩ ?_
      refine a_widen (k := 1) (n := 6) (Nat.le_of_ble_eq_true rfl) (Nat.le_of_ble_eq_true rfl) ?_
      exact a_iret C hlocks hret dL_act_198 rfl rfl
    · rw [v_do_none (o := (o_buyOil z a b)) h1]
      exact hq
end LACT
/-! execute, as a number -/
theorem x_rA : Cond.classLink RL 98 "java/lang/IllegalArgumentException" ∈ wsL_runs := by decide +kernel
theorem x_rS : Cond.classLink RL 96 "java/lang/IllegalStateException" ∈ wsL_runs := by decide +kernel
theorem c_L_runs_1 (l : Launch) (G : xG) (d d1 : xd) (hm : x_X G l yX11_execute wsX11_execute 10 [.ref (x_b G + 0)] d q_eA d1) : x_M G l yL_runs wsL_runs 11 1 6 [.ref (x_b G + 0)] d (some (.int (-1))) d1 := by
  refine x_startH (cc := cL_runs) (own := RL) (maxL := 2) (hh := [(0, 4, 5, 98), (0, 4, 8, 96)]) (by decide) rfl rfl (Nat.le_of_ble_eq_true rfl) rfl ?_
  intro p e s m args below meth c C hret hlocks hT
  refine a_aload_n C dL_runs_0 0 rfl ?_
  refine a_callC C (k := 0) (As := []) (rest := []) hm (cwV 0 C.1.2.2.2.2 gL_runs_X11_execute rfl rfl rfl (by decide +kernel) ⟨by dsimp only [x_rm]; omega, by dsimp only [x_rm]; omega⟩) x_k0 (q := (RX11, TX11, 13)) rfl rfl rfl rfl (Nat.le_of_ble_eq_true rfl) dL_runs_1 ⟨Nat.le_of_ble_eq_true rfl, Nat.le_of_ble_eq_true rfl⟩ [] ⟨0, 4, 5, 98⟩ [⟨0, 4, 8, 96⟩] (hT.trans rfl) (fun z hz => absurd hz List.not_mem_nil) (by decide) (by decide) x_rA (by decide +kernel) (fun w => ?_)
  refine a_astore_n C dL_runs_5 (by decide) rfl ?_
  refine a_iconst C dL_runs_6 rfl ?_
  exact a_iret C hlocks hret dL_runs_7 (by decide) rfl
theorem c_L_runs_2 (l : Launch) (G : xG) (d d1 : xd) (hm : x_X G l yX11_execute wsX11_execute 10 [.ref (x_b G + 0)] d q_eS d1) : x_M G l yL_runs wsL_runs 11 1 6 [.ref (x_b G + 0)] d (some (.int (-2))) d1 := by
  refine x_startH (cc := cL_runs) (own := RL) (maxL := 2) (hh := [(0, 4, 5, 98), (0, 4, 8, 96)]) (by decide) rfl rfl (Nat.le_of_ble_eq_true rfl) rfl ?_
  intro p e s m args below meth c C hret hlocks hT
  refine a_aload_n C dL_runs_0 0 rfl ?_
  refine a_callC C (k := 0) (As := []) (rest := []) hm (cwV 0 C.1.2.2.2.2 gL_runs_X11_execute rfl rfl rfl (by decide +kernel) ⟨by dsimp only [x_rm]; omega, by dsimp only [x_rm]; omega⟩) x_k0 (q := (RX11, TX11, 13)) rfl rfl rfl rfl (Nat.le_of_ble_eq_true rfl) dL_runs_1 ⟨Nat.le_of_ble_eq_true rfl, Nat.le_of_ble_eq_true rfl⟩ [⟨0, 4, 5, 98⟩] ⟨0, 4, 8, 96⟩ [] (hT.trans rfl) (fun z hz => Or.inr (by
    obtain rfl := List.mem_singleton.mp hz
    exact ⟨by decide, _, x_rA, by decide +kernel⟩)) (by decide) (by decide) x_rS (by decide +kernel) (fun w => ?_)
  refine a_astore_n C dL_runs_8 (by decide) rfl ?_
  refine a_bipush C dL_runs_9 rfl ?_
  exact a_iret C hlocks hret dL_runs_11 (by decide) rfl
/-! a text is typed -/
def p_put (d : xd) (v : Nat) : Nat → xd
  | 0 => d
  | k + 1 => x_p (x_p (p_put d v k) 169 k (nI (x_wN v k))) 168 1 (nI (k + 1))
theorem p_put_1 (d : xd) (v : Nat) (h : d 168 1 = 0) : ∀ k, p_put d v k 168 1 = nI k
  | 0 => h
  | k + 1 => x_p_at
theorem p_put_o (d : xd) (v : Nat) : ∀ (k i : Nat), i ≠ 168 → i ≠ 169 → p_put d v k i = d i
  | 0, i, _, _ => rfl
  | k + 1, i, h1, h2 => by
    unfold p_put
    rw [x_p_ne h1, x_p_ne h2]
    exact p_put_o d v k i h1 h2
theorem p_put_9 (d : xd) (v : Nat) : ∀ (k j : Nat), j < k → p_put d v k 169 j = nI (x_wN v j)
  | 0, j, h => absurd h (Nat.not_lt_zero j)
  | k + 1, j, h => by
    unfold p_put
    rw [x_p_ne (by decide)]
    by_cases hj : j = k
    · subst hj
      exact x_p_at
    · rw [x_p_row hj]
      exact p_put_9 d v k j (by omega)
theorem x_w126 : ∀ v, v < 27 → ∀ i, i < x_wL v → (32 ≤ nI (x_wN v i) ∧ nI (x_wN v i) ≤ 126) ∧ x_wN v i < 65536 := by decide +kernel
set_option maxHeartbeats 1000000 in
theorem c_L_put (l : Launch) (G : xG) (d : xd) (v : Nat) (hv : v < 27) (hd : d 168 1 = 0) : x_M G l yL_put wsL_put 5 0 0 [.ref (x_b G + 0), .ref (x_e G 2 v)] d none (p_put d v (x_wL v)) := by
  refine x_start (cc := cL_put) (own := RL) (maxL := 3) (by decide) rfl rfl (Nat.le_of_ble_eq_true rfl) rfl ?_
  intro p e s m args below meth c C hret hlocks
  have h60 := x_wL_27 v hv
  refine a_iconst C dL_put_0 (v := 0) (by decide) ?_
  refine a_istore_n C dL_put_1 (by decide) (lst2 := [(2, .int (nI 0)), (0, .ref (x_b G + 0)), (1, .ref (x_e G 2 v))]) rfl ?_
  have L2 : ∀ (j k : Nat), k ≤ x_wL v → x_wL v < k + j → Ab G p l e (x_rm 5 0 0) s m args below meth c 3 0 0 (MQ below (x_Q G none (p_put d v (x_wL v))) args s 0 0 (x_A G)) 2 [(2, .int (nI k)), (0, .ref (x_b G + 0)), (1, .ref (x_e G 2 v))] [] (p_put d v k) := by
    intro j
    induction j with
    | zero => intro k h1 h2; exact absurd h2 (by omega)
    | succ j ih =>
      intro k hk hj
      refine a_iload_n C dL_put_2 0 rfl ?_
      refine a_aload_n C dL_put_3 2 rfl ?_
      refine a_callR C (b := x_e G 2 v) (As := []) (rest := [.int (nI k)]) (c_S_length l G _ v hv) (cwV 0 C.1.2.2.2.2 gL_put_J0_length_8abf5 rfl rfl rfl (by decide +kernel) ⟨Nat.le_of_ble_eq_true rfl, Nat.le_of_ble_eq_true rfl⟩) (x_recS C hv) rfl rfl (Nat.le_of_ble_eq_true rfl) dL_put_4 ⟨Nat.le_of_ble_eq_true rfl, Nat.le_of_ble_eq_true rfl⟩ ?_
      refine a_icmp_ge C dL_put_7 (tgt := 26) (by decide) (fun h7 => ?_) (fun h7 => ?_)
      · have e : k = x_wL v := x_ge h7 hk (by omega)
        exact a_vret C hlocks hret dL_put_26 (by rw [e])
      · have hlt : k < x_wL v := x_nge h7 hk
        obtain ⟨⟨b1, b2⟩, b3⟩ := x_w126 v hv k hlt
        refine a_aload_n C dL_put_10 1 rfl ?_
        refine a_aload_n C dL_put_11 2 rfl ?_
        refine a_iload_n C dL_put_12 0 rfl ?_
        refine a_callR C (b := x_e G 2 v) (As := [.int (nI k)]) (rest := [.ref (x_b G + 0)]) (c_S_charAt l G _ v hv k hlt) (cwV 1 C.1.2.2.2.2 gL_put_J0_charAt_5068e rfl rfl rfl (by decide +kernel) ⟨Nat.le_of_ble_eq_true rfl, Nat.le_of_ble_eq_true rfl⟩) (x_recS C hv) rfl rfl (Nat.le_of_ble_eq_true rfl) dL_put_13 ⟨Nat.le_of_ble_eq_true rfl, Nat.le_of_ble_eq_true rfl⟩ ?_
        refine a_callV C (k := 0) (As := [.int (nI (x_wN v k))]) (rest := []) (c_F_type l G _ (x_wN v k) b3 ⟨b1, b2⟩ k (p_put_1 d v hd k) (by omega)) (cwV 1 C.1.2.2.2.2 gL_put_X11_type rfl rfl rfl (by decide +kernel) ⟨Nat.le_of_ble_eq_true rfl, Nat.le_of_ble_eq_true rfl⟩) x_k0 (q := (RX11, TX11, 13)) rfl rfl rfl rfl (Nat.le_of_ble_eq_true rfl) dL_put_16 ⟨Nat.le_of_ble_eq_true rfl, Nat.le_of_ble_eq_true rfl⟩ ?_
        refine a_pop C dL_put_19 rfl ?_
        refine a_iinc C dL_put_20 0 rfl (v := nI (k + 1)) (x_inc k) (by decide) (lst2 := [(2, .int (nI (k + 1))), (0, .ref (x_b G + 0)), (1, .ref (x_e G 2 v))]) rfl ?_
        refine a_goto C dL_put_23 (tgt := 2) (by decide) ?_
        exact ih (k + 1) (by omega) (by omega)
  exact L2 (x_wL v + 1) 0 (by omega) (by omega)
/-- what the buffer holds behind it -/
theorem p_put_R {B : Nat} {d : xd} {z : Nat → Int32} {hs : List (Nat → Int32)} {v k : Nat} (h : q_R B d z hs) : q_R B (p_put d v k) z hs := q_R_like h (fun i h1 h2 => p_put_o d v k i (by omega) (by omega)) (fun i h1 h2 => p_put_o d v k i (by omega) (by omega)) (Nat.le_refl _)
