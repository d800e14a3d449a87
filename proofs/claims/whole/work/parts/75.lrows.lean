/-! the answer cells: a long, a double -/
def x_sl (G : xG) (v : Int64) : xG := (G.1, G.2.1, G.2.2.1, G.2.2.2.1, vp_updL G.2.2.2.2.1 0 v, G.2.2.2.2.2)
def x_su (G : xG) (v : UInt64) : xG := (G.1, G.2.1, G.2.2.1, G.2.2.2.1, G.2.2.2.2.1, vf_upd G.2.2.2.2.2 0 v)
theorem x_sl_0 (G : xG) (v : Int64) : x_l (x_sl G v) 0 = v := by simp [x_sl, x_l, vp_updL]
theorem x_su_0 (G : xG) (v : UInt64) : x_u (x_su G v) 0 = v := by simp [x_su, x_u, vf_upd]
def x_nt (t : Nat) (sh : xS) : Bool := match sh with
  | .inl _ => true
  | .inr q => decide (q.1 ≠ t ∧ q.1 < 8)
theorem x_cell_sl (G : xG) (v : Int64) (f : Nat → Int32) (sh : xS) (h : x_nt 6 sh = true) : x_cell (x_sl G v) f sh = x_cell G f sh := by
  rcases sh with q | ⟨t, n⟩
  · rfl
  · have h := of_decide_eq_true h
    simp only at h
    obtain ⟨h6, h8⟩ := h
    have ht : t = 0 ∨ t = 1 ∨ t = 2 ∨ t = 3 ∨ t = 4 ∨ t = 5 ∨ t = 7 := by omega
    rcases ht with rfl | rfl | rfl | rfl | rfl | rfl | rfl <;> rfl
theorem x_cell_su (G : xG) (v : UInt64) (f : Nat → Int32) (sh : xS) (h : x_nt 7 sh = true) : x_cell (x_su G v) f sh = x_cell G f sh := by
  rcases sh with q | ⟨t, n⟩
  · rfl
  · have h := of_decide_eq_true h
    simp only at h
    obtain ⟨h6, h8⟩ := h
    have ht : t = 0 ∨ t = 1 ∨ t = 2 ∨ t = 3 ∨ t = 4 ∨ t = 5 ∨ t = 6 := by omega
    rcases ht with rfl | rfl | rfl | rfl | rfl | rfl | rfl <;> rfl
theorem x_sh_len : x_sh.length = 185 := by decide +kernel
theorem x_sh_6 : ∀ k, k < 185 → k = 183 ∨ (x_sh[k]?).map (x_nt 6) = some true := by decide +kernel
theorem x_sh_7 : ∀ k, k < 185 → k = 184 ∨ (x_sh[k]?).map (x_nt 7) = some true := by decide +kernel
theorem x_ws_sl (G : xG) (d : xd) (v : Int64) : (x_ws G d).set 183 (x_b G + 183, .inl (x_c G 6, 1, .inr (.inl (vp_updL (x_l G) 0 v)))) = x_ws (x_sl G v) d := by
  refine List.ext_getElem? fun i => ?_
  by_cases hi : i = 183
  · subst hi
    have hl : 183 < (x_ws G d).length := (List.getElem?_eq_some_iff.mp (x_get G d x_k183)).1
    rw [List.getElem?_set_self hl, x_get (x_sl G v) d x_k183]
    rfl
  · rw [List.getElem?_set_ne (Ne.symm hi)]
    rcases Nat.lt_or_ge i 185 with h | h
    · rcases x_sh_6 i h with h6 | h6
      · exact absurd h6 hi
      · obtain ⟨sh, hs, ht⟩ := Option.map_eq_some_iff.mp h6
        rw [x_get G d hs, x_get (x_sl G v) d hs, x_cell_sl G v (d i) sh ht]
        rfl
    · have e : x_sh[i]? = none := List.getElem?_eq_none (by rw [x_sh_len]; exact h)
      simp only [x_ws, List.getElem?_mapIdx, e]
      rfl
theorem x_ws_su (G : xG) (d : xd) (v : UInt64) : (x_ws G d).set 184 (x_b G + 184, .inl (x_c G 7, 1, .inr (.inr (.inr (.inl (vf_upd (x_u G) 0 v)))))) = x_ws (x_su G v) d := by
  refine List.ext_getElem? fun i => ?_
  by_cases hi : i = 184
  · subst hi
    have hl : 184 < (x_ws G d).length := (List.getElem?_eq_some_iff.mp (x_get G d x_k184)).1
    rw [List.getElem?_set_self hl, x_get (x_su G v) d x_k184]
    rfl
  · rw [List.getElem?_set_ne (Ne.symm hi)]
    rcases Nat.lt_or_ge i 185 with h | h
    · rcases x_sh_7 i h with h6 | h6
      · exact absurd h6 hi
      · obtain ⟨sh, hs, ht⟩ := Option.map_eq_some_iff.mp h6
        rw [x_get G d hs, x_get (x_su G v) d hs, x_cell_su G v (d i) sh ht]
        rfl
    · have e : x_sh[i]? = none := List.getElem?_eq_none (by rw [x_sh_len]; exact h)
      simp only [x_ws, List.getElem?_mapIdx, e]
      rfl
/-- a wrapper: it returns; the answer cells may change; it may make one exception -/
def x_ML (G G2 : xG) (l : Launch) (y : MethodName) (ws : List Cond) (lv : Nat) (av : List Value) (d : xd) (r : Option Value) (d' : xd) : Prop := Met l y ws (x_rm lv 1 6) (va_Pc av (x_U G d)) (x_Q G2 r d') 1 6 (x_A G)
def x_lz (r : Int32) : Int64 := if r = 0 then 0 else 1
theorem x_vp0 : vp_in 0 1 := by
  have h := x_vp (i := 0) (n := 1) (by omega) (by omega)
  rw [nI_0] at h
  exact h
section XLROWS
variable {G : xG} {p : Program} {l : Launch} {e : Env} {R : Room} {s : State} {m : MethodId} {args : Array Value} {below : List Frame} {meth : Method} {c : Code} {nL cells slots : Nat} {Q : State → Prop} {cc : ByteArray} {Ts : List Cond} {own : String} {pc : Nat} {lst lst2 : List (Nat × Value)} {rest : List Value} {d : xd}
theorem Cx.sl (C : Cx G p s m args c cc Ts own nL) (v : Int64) : Cx (x_sl G v) p s m args c cc Ts own nL := C
theorem Cx.su (C : Cx G p s m args c cc Ts own nL) (v : UInt64) : Cx (x_su G v) p s m args c cc Ts own nL := C
theorem a_i2l (C : Cx G p s m args c cc Ts own nL) {x : Int32} (hdg : decode cc pc = .ok (.i2l, 1)) (k : Ab G p l e R s m args below meth c nL cells slots Q (pc + 1) lst (.long x.toInt64 :: rest) d) : Ab G p l e R s m args below meth c nL cells slots Q pc lst (.int x :: rest) d := fun H locs ls hP hS hl => lv_i2l C.1.1 C.1.2.1 hdg rfl (k H locs ls hP hS hl)
theorem a_lconst (C : Cx G p s m args c cc Ts own nL) {n : Fin 2} {v : Int64} (hdg : decode cc pc = .ok (.lconst n, 1)) (hv : Int64.ofNat (n : Nat) = v) (k : Ab G p l e R s m args below meth c nL cells slots Q (pc + 1) lst (.long v :: rest) d) : Ab G p l e R s m args below meth c nL cells slots Q pc lst rest d := fun H locs ls hP hS hl => lv_lconst C.1.1 C.1.2.1 hdg hv (k H locs ls hP hS hl)
theorem a_last (C : Cx G p s m args c cc Ts own nL) {x : Int64} (hdg : decode cc pc = .ok (.lastore, 1)) (kk : Ab (x_sl G x) p l e R s m args below meth c nL cells slots Q (pc + 1) lst rest d) : Ab G p l e R s m args below meth c nL cells slots Q pc lst (.long x :: .int 0 :: .ref (x_b G + 183) :: rest) d :=
  fun H locs ls hP hS hl => va_last (D := x_D G) (f := x_l G) C.1.1 C.1.2.1 C.2.1 hP (x_Dok G d) hS 183 6 (x_get G d x_k183) rfl x_vp0 hdg (fun H1 locs1 hP1 _ hS1 => kk H1 locs1 ls (by
    rw [show (0 : Int32).toNatClampNeg = 0 from by decide, x_ws_sl] at hP1
    exact hP1) hS1 hl)
theorem a_dast (C : Cx G p s m args c cc Ts own nL) {x : UInt64} (hdg : decode cc pc = .ok (.dastore, 1)) (kk : Ab (x_su G x) p l e R s m args below meth c nL cells slots Q (pc + 1) lst rest d) : Ab G p l e R s m args below meth c nL cells slots Q pc lst (.double x :: .int 0 :: .ref (x_b G + 184) :: rest) d :=
  fun H locs ls hP hS hl => va_dast (D := x_D G) (f := x_u G) C.1.1 C.1.2.1 C.2.1 hP (x_Dok G d) hS 184 7 (x_get G d x_k184) rfl x_vp0 hdg (fun H1 locs1 hP1 _ hS1 => kk H1 locs1 ls (by
    rw [show (0 : Int32).toNatClampNeg = 0 from by decide, x_ws_su] at hP1
    exact hP1) hS1 hl)
theorem a_lald (C : Cx G p s m args c cc Ts own nL) (hdg : decode cc pc = .ok (.laload, 1)) (kk : Ab G p l e R s m args below meth c nL cells slots Q (pc + 1) lst (.long (x_l G 0) :: rest) d) : Ab G p l e R s m args below meth c nL cells slots Q pc lst (.int 0 :: .ref (x_b G + 183) :: rest) d :=
  fun H locs ls hP hS hl => va_lald (D := x_D G) (f := x_l G) C.1.1 C.1.2.1 C.2.1 hP 183 6 (x_get G d x_k183) rfl x_vp0 hdg (kk H locs ls hP hS hl)
theorem a_dald (C : Cx G p s m args c cc Ts own nL) (hdg : decode cc pc = .ok (.daload, 1)) (kk : Ab G p l e R s m args below meth c nL cells slots Q (pc + 1) lst (.double (x_u G 0) :: rest) d) : Ab G p l e R s m args below meth c nL cells slots Q pc lst (.int 0 :: .ref (x_b G + 184) :: rest) d :=
  fun H locs ls hP hS hl => va_dald (D := x_D G) (f := x_u G) C.1.1 C.1.2.1 C.2.1 hP 184 7 (x_get G d x_k184) rfl x_vp0 hdg (kk H locs ls hP hS hl)
/-- a wrapper's end -/
theorem a_iretL {G2 : xG} (C : Cx G2 p s m args c cc Ts own nL) (hA : x_b G2 = x_b G) (hlocks : meth.locks = false) (hr : meth.sig.returnType = some .int) {v v2 : Int32} {d2 : xd} (hdg : decode cc pc = .ok (.ireturn, 1)) (hv : v = v2) (hd : d = d2) : Ab G2 p l e R s m args below meth c nL cells slots (MQ below (x_Q G2 (some (.int v2)) d2) args s cells slots (x_A G)) pc lst [.int v] d := fun H locs ls hP hS hl => by
  subst hv; subst hd
  have hA2 : x_A G = x_A G2 := by unfold x_A; rw [hA]
  rw [hA2]
  exact W.iret C.1.1 C.1.2.1 hr (x_end hP hS) hS.2.2 hdg hlocks
theorem x_startH {y : MethodName} {ws ws2 : List Cond} {lv maxL : Nat} {ret : Option FieldType} {hh : List (Nat × Nat × Nat × Nat)} {av : List Value} {r : Option Value} {d2 : xd} {G2 : xG} (hy : plainName y.cls = true) (hw : ws = Cond.codeWith y cc maxL ret hh :: ws2) (ho : y.cls = own) (hlen : (lg_sl av).length ≤ maxL) (hlst : lv_args 0 av = lst)
    (body : ∀ (p : Program) (e : Env) (s : State) (m : MethodId) (args : Array Value) (below : List Frame) (meth : Method) (c : Code), Cx G p s m args c cc ws own maxL → meth.sig.returnType = ret → meth.locks = false → c.exceptionTable.toList = tableOf hh → Ab G p l e (x_rm lv 1 6) s m args below meth c maxL 0 0 (MQ below (x_Q G2 r d2) args s 1 6 (x_A G)) 0 lst [] d) : x_ML G G2 l y ws lv av d r d2 := by
  unfold x_ML Met
  refine MetFree.of_bodyS (code := cc) (maxLocals := maxL) (ret := ret) hy ?_ ?_
  · intro args s m h hn
    obtain ⟨m9, meth, c, hn9, h1, h2, h3, h4, -, h5, h6, -⟩ := Cond.codeWith_spec (atoms_spec (ws := ws) h _ (by rw [hw]; exact List.mem_cons_self))
    cases hn.symm.trans hn9
    exact ⟨meth, c, h1, h2, h3, h4, h5, h6⟩
  · intro p e s m args below meth c s₁ B hml hv _
    have hh0 : s₁.heap = s.heap := by rw [B.state]; rfl
    have hT := vx_table (x := y) B (atoms_spec (ws := ws) B.pre _ (by rw [hw]; exact List.mem_cons_self))
    obtain ⟨rfl, hP, hK⟩ := hv
    have hl := lv_entry av (n := maxL) hlen
    rw [hlst] at hl
    have K : W p l e (x_rm lv 1 6) s m av.toArray below meth c s.heap [] 0 0 (MQ below (x_Q G2 r d2) av.toArray s 1 6 (x_A G)) (entryFrame m av.toArray maxL) := by
      rw [lg_entry_eq]
      exact body p e s m _ below meth c ⟨⟨B.exec, B.bytes, hml, ho ▸ findClass_of_methodNamed B.named, atoms_spec (ws := ws) B.pre⟩, hK⟩ B.returns B.notSynchronized hT s.heap [] _ hP va_S.rf hl
    obtain ⟨t, a1, o, b1, b2, b3⟩ := K s₁ hh0 (Stand.of_body B)
    exact ⟨t, o, a1, b1, b2, b3⟩
/-- a call that throws, caught here -/
theorem a_callC (C : Cx G p s m args c cc Ts own nL) {y : MethodName} {Cn : String} {bytes : ByteArray} {maxL n index lv k ci : Nat} {ret : Option FieldType} {ws : List Cond} {As : List Value} {E : String} {d2 : xd} {fl : List (Option Nat)} {q : vw_C}
    (hM : x_X G l y ws lv (.ref (x_b G + k) :: As) d E d2) (cw : CallW R s args own Cn index y bytes maxL ret ws (x_rm lv 1 6) 1 6 n) (hk : x_sh[k]? = some (.inl (ci, fl))) (hc : vwCl[ci]? = some q) (hq : q.1 = Cn) (hn : As.length = n) {st : List Value} (hst : st = As.reverse ++ .ref (x_b G + k) :: rest) (hro : (rest.map fun v => v.category).sum ≤ 8) (hdg : decode cc pc = .ok (.invokevirtual index, 3)) (hf : cells + 1 ≤ R.cells ∧ slots + 6 ≤ R.slots)
    (pre : List ExceptionTableEntry) (x : ExceptionTableEntry) (suf : List ExceptionTableEntry) (hsplit : c.exceptionTable.toList = pre ++ x :: suf)
    (hpass : ∀ z ∈ pre, z.catchType ≠ 0 ∧ ∃ nm : String, Cond.classLink own z.catchType nm ∈ Ts ∧ (E, nm) ∈ x_ncs) (hx : covers x pc = true) (h0 : x.catchType ≠ 0) (hlink : Cond.classLink own x.catchType E ∈ Ts) (hcast : E ∈ x_cs)
    (kk : ∀ w : Nat, Ab G p l e R s m args below meth c nL (cells + 1) (slots + 6) Q x.handlerPc lst [.ref w] d2) : Ab G p l e R s m args below meth c nL cells slots Q pc lst st d := by
  intro H locs ls hP hS hl
  subst hst
  subst hq
  have hr := vx_runV (locs := locs) (meth := meth) (below := below) (e := e) (As := As) (rest := rest) (g := F0 m pc ls (As.reverse ++ .ref (x_b G + k) :: rest)) C.1 hM cw ⟨x_blind G _ d, va_recv C.2.1 hP hc (x_get G d hk), x_pre C.2 hP hS⟩ rfl hn hl.1 rfl (lv_room hro) hdg hf
  intro T hT0 X
  rcases hr T hT0 X with ⟨v, st₀, t, T', L, h0, X', hL, e1, e2, hf, st⟩ | ⟨q, st₀, t, T', L, E2, ce, h00, X', hL, e1, e2, ⟨hE, hu, hz, hk⟩, hcell, hvm, hcl, st⟩
  · exact hf.elim
  · subst hE
    rw [h00] at hz hk
    have hS1 : va_S (x_A G) s.heap T'.heap (locs ++ L) := ⟨Nat.le_trans hS.1 (by rw [e1]; exact hz), fun q h1 h2 => by rw [e1, hk q (Nat.lt_of_lt_of_le h1 hS.1) h2]; exact hS.2.1 q h1 h2, fun q hq => by
      rcases List.mem_append.mp hq with h | h
      · exact hS.2.2 q h
      · exact hL q h⟩
    obtain ⟨-, -, y1, y2, y3, y4, y5, y6, y7, y8, y9, y10, y11, y12, y13, y14, y15, y16, y17, y18, y19, y20, y21⟩ := C.2
    have hout : vx_W p l e R s m args below meth c T'.heap (locs ++ L) (cells + 1) (slots + 6) Q (F0 m pc ls rest) q :=
      vx_catch C.1.2.2.2.1 pre x suf hsplit (fun z hz => by
        obtain ⟨z0, nm, z1, z2⟩ := hpass z hz
        exact Or.inr ⟨z0, nm, C.1.2.2.2.2 _ z1, y18 _ z2⟩) hx h0 (C.1.2.2.2.2 _ hlink) (va_tabs rfl rfl (y20 _ hcast)) (by rw [e1]; exact hcell) hvm hcl
        (kk q T'.heap (locs ++ L) ls (by rw [e1]; exact hu) hS1 hl)
    obtain ⟨t2, a1, b1⟩ := hout T' rfl X'
    exact ⟨t2, st.trans a1, b1⟩
/-- a call of a wrapper -/
theorem a_callL {G2 : xG} (hA : x_b G2 = x_b G) (C : Cx G p s m args c cc Ts own nL) {y : MethodName} {bytes : ByteArray} {maxL n index lv : Nat} {ret : Option FieldType} {hh : List (Nat × Nat × Nat × Nat)} {ws : List Cond} {As : List Value} {r : Option Value} {d2 : xd}
    (hM : x_ML G G2 l y ws lv As d r d2) (cw : vx_CSW R s args own index y bytes maxL ret hh ws (x_rm lv 1 6) 1 6 n) (hn : As.length = n) {st : List Value} (hst : st = As.reverse ++ rest) (hro : (rest.map fun v => v.category).sum ≤ 8) (hdg : decode cc pc = .ok (.invokestatic index, 3)) (hf : cells + 1 ≤ R.cells ∧ slots + 6 ≤ R.slots)
    (hD : x_D G2 = x_D G) (kk : Ab G2 p l e R s m args below meth c nL (cells + 1) (slots + 6) Q (pc + 3) lst (r.toList ++ rest) d2) : Ab G p l e R s m args below meth c nL cells slots Q pc lst st d := by
  intro H locs ls hP hS hl
  subst hst
  have hr := vx_runSW (locs := locs) (meth := meth) (below := below) (e := e) (As := As) (rest := rest) (g := F0 m pc ls (As.reverse ++ rest)) C.1 hM cw ⟨x_blind G _ d, x_pre C.2 hP hS⟩ rfl hn hl.1 rfl (lv_room hro) hdg hf
  have hA2 : x_A G2 = x_A G := by unfold x_A; rw [hA]
  intro T hT X
  obtain ⟨v, st₀, t, T', L, h0, X', hL, e1, e2, ⟨hv, hu, hz, hk⟩, st⟩ := hr T hT X
  cases hv
  rw [h0] at hz hk
  rw [hA2] at hk
  obtain ⟨t2, a1, b1⟩ := kk T'.heap (locs ++ L) ls (by rw [e1]; exact hu)
    (by rw [hA2]; exact ⟨Nat.le_trans hS.1 (by rw [e1]; exact hz), fun q h1 h2 => by rw [e1, hk q (Nat.lt_of_lt_of_le h1 hS.1) h2]; exact hS.2.1 q h1 h2, fun q hq => by
      rcases List.mem_append.mp hq with h | h
      · exact hS.2.2 q h
      · exact hL q h⟩) hl T' rfl X'
  exact ⟨t2, st t2 a1, b1⟩
end XLROWS
/-- what a call of the class came to: it answers r (k = 0), or it throws the k-th of Es -/
def y_C (l : Launch) (y : MethodName) (ws : List Cond) (av : xG → List Value) (Es : List String) (k : Nat) (r : Value) (d d1 : xd) : Prop :=
  ∃ lv, lv ≤ 10 ∧ ((k = 0 ∧ ∀ G, x_M G l y ws lv 0 0 (av G) d (some r) d1) ∨ (∃ E, 1 ≤ k ∧ Es[k - 1]? = some E ∧ ∀ G, x_X G l y ws lv (av G) d E d1))
