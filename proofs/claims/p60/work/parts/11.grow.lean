/-! the making of the world: cells one behind another from x_b on; cell k is f k -/
abbrev nF : Type := Nat → va_E
def n_ws (G : xG) (n : Nat) (f : nF) : va_W := (List.range n).map (fun k => (x_b G + k, f k))
theorem n_wget (G : xG) (f : nF) {n k : Nat} (h : k < n) : (n_ws G n f)[k]? = some (x_b G + k, f k) := by simp [n_ws, h]
theorem n_winv (G : xG) (f : nF) {n k : Nat} {q : Nat × va_E} (h : (n_ws G n f)[k]? = some q) : k < n ∧ q = (x_b G + k, f k) := by
  have hl : k < n := by
    have h9 := (List.getElem?_eq_some_iff.mp h).1
    simpa [n_ws] using h9
  exact ⟨hl, Option.some.inj (h.symm.trans (n_wget G f hl))⟩
def n_P (G : xG) (n : Nat) (f : nF) (H : Heap) : Prop := H.size = x_b G + n ∧ ∀ k, k < n → va_at (x_D G) vwCl (x_b G + k, f k) H
theorem n_P.ws {G : xG} {n : Nat} {f : nF} {H : Heap} (h : n_P G n f H) : va_P (x_D G) vwCl (n_ws G n f) H := fun k q hq => by
  obtain ⟨h1, rfl⟩ := n_winv G f hq
  exact h.2 k h1
theorem n_P.upd {G : xG} {n k : Nat} {f : nF} {H H1 : Heap} {e : va_E} (h : n_P G n f H) (he : va_at (x_D G) vwCl (x_b G + k, e) H1) (z : H1.size = H.size) (oq : ∀ q, q ≠ x_b G + k → H1[q]? = H[q]?) : n_P G n (va_up f k e) H1 := ⟨z.trans h.1, fun i hi => by
  by_cases hik : i = k
  · subst hik
    rw [va_up_self]
    exact he
  · rw [va_up_ne _ _ hik]
    exact (h.2 i hi).kept (oq _ (by show x_b G + i ≠ x_b G + k; omega))⟩
theorem n_P.push {G : xG} {n n2 : Nat} {f : nF} {H H1 : Heap} {e : va_E} (h : n_P G n f H) (hn : n + 1 = n2) (he : va_at (x_D G) vwCl (x_b G + n, e) H1) (z : H1.size = x_b G + n + 1) (oq : ∀ q, q < x_b G + n → H1[q]? = H[q]?) : n_P G n2 (va_up f n e) H1 := by
  subst hn
  refine ⟨z, fun i hi => ?_⟩
  by_cases hik : i = n
  · subst hik
    rw [va_up_self]
    exact he
  · rw [va_up_ne _ _ hik]
    exact (h.2 i (by omega)).kept (oq _ (by show x_b G + i < x_b G + n; omega))
theorem n_P.cong {G : xG} {n : Nat} {f g : nF} {H : Heap} (h : n_P G n f H) (hfg : ∀ k, k < n → g k = f k) : n_P G n g H := ⟨h.1, fun k hk => by rw [hfg k hk]; exact h.2 k hk⟩
def n_nst : List (String × Nat × MethodName) := [(RX11, 9, yX9_init), (RX11, 35, yX7_init), (RX11, 42, yX1_init), (RX11, 56, yX3_init), (RX4, 24, yX9_init), (RX9, 11, yX5_init), (RX9, 20, yX6_init), (RX9, 27, yX2_init)]
def n_N (G : xG) (U : State) : Prop := (∀ q : Nat, x_b G ≤ q → x_A G q) ∧ (∀ q ∈ n_nst, va_Nw (.methodLinkNest q.1 q.2.1 q.2.2 RX11) U) ∧ va_AO "LampCooperative$State" U ∧ va_AO "LampCooperative$Verb" U
theorem n_N.warm {G : xG} {s U : State} (hW : s.WarmedH U.vm) (h : n_N G s) : n_N G U := ⟨h.1, fun q hq => (h.2.1 q hq).warmM hW, h.2.2.1.moved hW.alike, h.2.2.2.moved hW.alike⟩
def n_U (G : xG) (n : Nat) (f : nF) (U : State) : Prop := n_P G n f U.heap ∧ x_K G U ∧ n_N G U
def n_Q (G : xG) (n : Nat) (f : nF) : Array Value → State → Outcome → State → Prop := fun _ st oc t => oc = .returned none ∧ n_P G n f t.heap ∧ va_F (x_A G) st t
/-- a constructor: from n cells f to n2 cells f2 -/
def n_M (G : xG) (l : Launch) (y : MethodName) (ws : List Cond) (lv mc ms : Nat) (av : List Value) (n : Nat) (f : nF) (n2 : Nat) (f2 : nF) : Prop := Met l y ws (x_rm lv mc ms) (va_Pc av (n_U G n f)) (n_Q G n2 f2) mc ms (x_A G)
theorem n_blind (G : xG) (av : List Value) (n : Nat) (f : nF) : FrameBlind (va_Pc av (n_U G n f)) := by
  intro a U g mk q
  obtain ⟨q0, q1, ⟨q2, q3, q4⟩, q5⟩ := q
  exact ⟨q0, q1, ⟨va_K.moved (u := U) (U := U.calling g mk a) (Vm.Alike.refl U.vm) q2, q3, x_E.at (u := U) (U := U.calling g mk a) (H := U.heap) (State.WarmedH.refl U) (fun _ _ _ => rfl) q4⟩, n_N.warm (s := U) (U := U.calling g mk a) (State.WarmedH.refl U) q5⟩
def Nx (G : xG) (p : Program) (s : State) (m : MethodId) (args : Array Value) (c : Code) (cc : ByteArray) (Ts : List Cond) (own : String) (nL : Nat) : Prop := Cx G p s m args c cc Ts own nL ∧ n_N G s
def An (G : xG) (p : Program) (l : Launch) (e : Env) (R : Room) (s : State) (m : MethodId) (args : Array Value) (below : List Frame) (meth : Method) (c : Code) (nL cells slots : Nat) (Q : State → Prop) (pc : Nat) (lst : List (Nat × Value)) (st : List Value) (n : Nat) (f : nF) : Prop :=
  ∀ (H : Heap) (locs : List Loc) (ls : Array Slot), n_P G n f H → va_S (x_A G) s.heap H locs → lv_has ls nL lst → W p l e R s m args below meth c H locs cells slots Q (F0 m pc ls st)
def n_lay (G : xG) (o : Nat) (shs : List xS) (f : nF) : nF := fun k => if o ≤ k ∧ k < o + shs.length then x_cell G (fun _ => 0) (shs.getD (k - o) (.inr (0, 0))) else f k
theorem n_lay_lt {G : xG} {o k : Nat} {shs : List xS} {f : nF} (h : k < o) : n_lay G o shs f k = f k := if_neg (fun q => by omega)
theorem n_lay_ge {G : xG} {o k : Nat} {shs : List xS} {f : nF} (h : o + shs.length ≤ k) : n_lay G o shs f k = f k := if_neg (fun q => by omega)
theorem n_lay_ge2 {G : xG} {o k len : Nat} {shs : List xS} {f : nF} (hlen : shs.length = len) (h : o + len ≤ k) : n_lay G o shs f k = f k := n_lay_ge (by rw [hlen]; exact h)
theorem n_lay_at {G : xG} {o i : Nat} {shs : List xS} {f : nF} {sh : xS} (h : shs[i]? = some sh) : n_lay G o shs f (o + i) = x_cell G (fun _ => 0) sh := by
  have hl : i < shs.length := (List.getElem?_eq_some_iff.mp h).1
  unfold n_lay
  rw [if_pos ⟨by omega, by omega⟩, show o + i - o = i by omega, List.getD_eq_getElem?_getD, h]
  rfl
theorem n_lay_is {G : xG} {o k i : Nat} {shs : List xS} {f : nF} {sh : xS} (hk : k = o + i) (h : shs[i]? = some sh) : n_lay G o shs f k = x_cell G (fun _ => 0) sh := by
  subst hk
  exact n_lay_at h
section NROWS
variable {G : xG} {p : Program} {l : Launch} {e : Env} {R : Room} {s : State} {m : MethodId} {args : Array Value} {below : List Frame} {meth : Method} {c : Code} {nL cells slots : Nat} {Q : State → Prop} {cc : ByteArray} {Ts : List Cond} {own : String} {pc : Nat} {lst lst2 : List (Nat × Value)} {rest : List Value} {n : Nat} {f : nF}
theorem n_iconst (C : Nx G p s m args c cc Ts own nL) {n9 : Int} {v : Int32} (hdg : decode cc pc = .ok (.iconst n9, 1)) (hv : Int32.ofInt n9 = v) (k : An G p l e R s m args below meth c nL cells slots Q (pc + 1) lst (.int v :: rest) n f) : An G p l e R s m args below meth c nL cells slots Q pc lst (rest) n f := fun H locs ls hP hS hl => lv_iconst C.1.1.1 C.1.1.2.1 hdg hv (k H locs ls hP hS hl)
theorem n_bipush (C : Nx G p s m args c cc Ts own nL) {n9 : Int} {v : Int32} (hdg : decode cc pc = .ok (.bipush n9, 2)) (hv : (Int8.ofInt n9).toInt32 = v) (k : An G p l e R s m args below meth c nL cells slots Q (pc + 2) lst (.int v :: rest) n f) : An G p l e R s m args below meth c nL cells slots Q pc lst (rest) n f := fun H locs ls hP hS hl => lv_bipush C.1.1.1 C.1.1.2.1 hdg hv (k H locs ls hP hS hl)
theorem n_sipush (C : Nx G p s m args c cc Ts own nL) {n9 : Int} {v : Int32} (hdg : decode cc pc = .ok (.sipush n9, 3)) (hv : (Int16.ofInt n9).toInt32 = v) (k : An G p l e R s m args below meth c nL cells slots Q (pc + 3) lst (.int v :: rest) n f) : An G p l e R s m args below meth c nL cells slots Q pc lst (rest) n f := fun H locs ls hP hS hl => lv_sipush C.1.1.1 C.1.1.2.1 hdg hv (k H locs ls hP hS hl)
theorem n_iload_n (C : Nx G p s m args c cc Ts own nL) {i : Fin 4} {x : Int32} (hdg : decode cc pc = .ok (.iload_n i, 1)) (q : Nat) (hk : lst[q]? = some (i.val, .int x)) (k : An G p l e R s m args below meth c nL cells slots Q (pc + 1) lst (.int x :: rest) n f) : An G p l e R s m args below meth c nL cells slots Q pc lst (rest) n f := fun H locs ls hP hS hl => lv_iload_n C.1.1.1 C.1.1.2.1 hdg rfl (lv_at hl q hk) (k H locs ls hP hS hl)
theorem n_aload_n (C : Nx G p s m args c cc Ts own nL) {i : Fin 4} {x : Nat} (hdg : decode cc pc = .ok (.aload_n i, 1)) (q : Nat) (hk : lst[q]? = some (i.val, .ref x)) (k : An G p l e R s m args below meth c nL cells slots Q (pc + 1) lst (.ref x :: rest) n f) : An G p l e R s m args below meth c nL cells slots Q pc lst (rest) n f := fun H locs ls hP hS hl => lv_aload_n C.1.1.1 C.1.1.2.1 hdg rfl (lv_at hl q hk) (k H locs ls hP hS hl)
theorem n_dup (C : Nx G p s m args c cc Ts own nL) {va : Value} (hdg : decode cc pc = .ok (.dup, 1)) (hva : va.category = 1) (k : An G p l e R s m args below meth c nL cells slots Q (pc + 1) lst (va :: va :: rest) n f) : An G p l e R s m args below meth c nL cells slots Q pc lst (va :: rest) n f := fun H locs ls hP hS hl => lv_dup C.1.1.1 C.1.1.2.1 hdg hva (k H locs ls hP hS hl)
theorem n_astore_n (C : Nx G p s m args c cc Ts own nL) {i : Fin 4} {x : Nat} (hdg : decode cc pc = .ok (.astore_n i, 1)) (hn : i.val < nL) (hl2 : (i.val, Value.ref x) :: lst.filter (fun q => !(q.1 == i.val) && !(q.1 + 1 == i.val && q.2.category == 2)) = lst2) (k : An G p l e R s m args below meth c nL cells slots Q (pc + 1) lst2 rest n f) : An G p l e R s m args below meth c nL cells slots Q pc lst (.ref x :: rest) n f := fun H locs ls hP hS hl => lv_astore_n C.1.1.1 C.1.1.2.1 hdg rfl hl hn hl2 (fun ls2 h2 => k H locs ls2 hP hS h2)
theorem n_astore (C : Nx G p s m args c cc Ts own nL) {i : Nat} {x : Nat} (hdg : decode cc pc = .ok (.astore i, 2)) (hn : i < nL) (hl2 : (i, Value.ref x) :: lst.filter (fun q => !(q.1 == i) && !(q.1 + 1 == i && q.2.category == 2)) = lst2) (k : An G p l e R s m args below meth c nL cells slots Q (pc + 2) lst2 rest n f) : An G p l e R s m args below meth c nL cells slots Q pc lst (.ref x :: rest) n f := fun H locs ls hP hS hl => lv_astore C.1.1.1 C.1.1.2.1 hdg  hl hn hl2 (fun ls2 h2 => k H locs ls2 hP hS h2)
theorem n_istore_n (C : Nx G p s m args c cc Ts own nL) {i : Fin 4} {x : Int32} (hdg : decode cc pc = .ok (.istore_n i, 1)) (hn : i.val < nL) (hl2 : (i.val, Value.int x) :: lst.filter (fun q => !(q.1 == i.val) && !(q.1 + 1 == i.val && q.2.category == 2)) = lst2) (k : An G p l e R s m args below meth c nL cells slots Q (pc + 1) lst2 rest n f) : An G p l e R s m args below meth c nL cells slots Q pc lst (.int x :: rest) n f := fun H locs ls hP hS hl => lv_istore_n C.1.1.1 C.1.1.2.1 hdg rfl hl hn hl2 (fun ls2 h2 => k H locs ls2 hP hS h2)
theorem n_istore (C : Nx G p s m args c cc Ts own nL) {i : Nat} {x : Int32} (hdg : decode cc pc = .ok (.istore i, 2)) (hn : i < nL) (hl2 : (i, Value.int x) :: lst.filter (fun q => !(q.1 == i) && !(q.1 + 1 == i && q.2.category == 2)) = lst2) (k : An G p l e R s m args below meth c nL cells slots Q (pc + 2) lst2 rest n f) : An G p l e R s m args below meth c nL cells slots Q pc lst (.int x :: rest) n f := fun H locs ls hP hS hl => lv_istore C.1.1.1 C.1.1.2.1 hdg  hl hn hl2 (fun ls2 h2 => k H locs ls2 hP hS h2)
theorem n_iinc (C : Nx G p s m args c cc Ts own nL) {i : Nat} {n9 : Int} {x v : Int32} (hdg : decode cc pc = .ok (.iinc i n9, 3)) (q : Nat) (hk : lst[q]? = some (i, .int x)) (hv : x + Int32.ofInt n9 = v) (hn : i < nL) (hl2 : (i, Value.int v) :: lst.filter (fun q => !(q.1 == i) && !(q.1 + 1 == i && q.2.category == 2)) = lst2) (k : An G p l e R s m args below meth c nL cells slots Q (pc + 3) lst2 rest n f) : An G p l e R s m args below meth c nL cells slots Q pc lst rest n f := fun H locs ls hP hS hl => lv_iinc C.1.1.1 C.1.1.2.1 hdg hl hk hv hn hl2 (fun ls2 h2 => k H locs ls2 hP hS h2)
theorem n_if_eq (C : Nx G p s m args c cc Ts own nL) {x : Int32} {off : Int} {tgt : Nat} (hdg : decode cc pc = .ok (.ifCond .eq off, 3)) (ht : (pc : Int) + off = (tgt : Int)) (kt : x = 0 → An G p l e R s m args below meth c nL cells slots Q tgt lst rest n f) (kf : ¬ x = 0 → An G p l e R s m args below meth c nL cells slots Q (pc + 3) lst rest n f) : An G p l e R s m args below meth c nL cells slots Q pc lst (.int x :: rest) n f := fun H locs ls hP hS hl => lv_if_eq C.1.1.1 C.1.1.2.1 hdg ht (fun h => kt h H locs ls hP hS hl) (fun h => kf h H locs ls hP hS hl)
theorem n_icmp_ge (C : Nx G p s m args c cc Ts own nL) {x y : Int32} {off : Int} {tgt : Nat} (hdg : decode cc pc = .ok (.if_icmp .ge off, 3)) (ht : (pc : Int) + off = (tgt : Int)) (kt : y ≤ x → An G p l e R s m args below meth c nL cells slots Q tgt lst rest n f) (kf : ¬ y ≤ x → An G p l e R s m args below meth c nL cells slots Q (pc + 3) lst rest n f) : An G p l e R s m args below meth c nL cells slots Q pc lst (.int y :: .int x :: rest) n f := fun H locs ls hP hS hl => lv_icmp_ge C.1.1.1 C.1.1.2.1 hdg ht (fun h => kt h H locs ls hP hS hl) (fun h => kf h H locs ls hP hS hl)
theorem n_goto (C : Nx G p s m args c cc Ts own nL) {off : Int} {tgt : Nat} (hdg : decode cc pc = .ok (.goto off, 3)) (ht : (pc : Int) + off = (tgt : Int)) (k : An G p l e R s m args below meth c nL cells slots Q tgt lst rest n f) : An G p l e R s m args below meth c nL cells slots Q pc lst rest n f := fun H locs ls hP hS hl => lv_goto C.1.1.1 C.1.1.2.1 hdg ht (k H locs ls hP hS hl)
theorem n_widen {st : List Value} {k2 n2 : Nat} (h1 : cells ≤ k2) (h2 : slots ≤ n2) (kk : An G p l e R s m args below meth c nL k2 n2 Q pc lst st n f) : An G p l e R s m args below meth c nL cells slots Q pc lst st n f := fun H locs ls hP hS hl => W.widen h1 h2 (kk H locs ls hP hS hl)
theorem n_objInit (C : Nx G p s m args c cc Ts own nL) {idx a : Nat} (h1 : Cond.methodLink own idx Lib.objectInit ∈ Ts) (h2 : Cond.instanceMethod Lib.objectInit ∈ Ts) (h3 : Cond.code Lib.objectInit ⟨#[0xb1]⟩ 1 none ∈ Ts) (hdg : decode cc pc = .ok (.invokespecial idx, 3)) (hf : 1 ≤ R.frames) (hl9 : (rest.map fun v => v.category).sum + 12 ≤ R.locals) (k : An G p l e R s m args below meth c nL cells slots Q (pc + 3) lst rest n f) : An G p l e R s m args below meth c nL cells slots Q pc lst (.ref a :: rest) n f := fun H locs ls hP hS hl =>
  W.objInit C.1.1.1 C.1.1.2.1 C.1.1.2.2.2.1 (C.1.1.2.2.2.2 _ h1) (C.1.1.2.2.2.2 _ h2) (C.1.1.2.2.2.2 _ h3) rfl (by rw [C.1.1.2.2.1]; exact hl.1) rfl hdg hf (by show 2 * 0 + _ + 12 ≤ _; omega) (k H locs ls hP hS hl)
theorem n_getsCS (C : Nx G p s m args c cc Ts own nL) {index : Nat} (hlk : Cond.fieldLink own index "java/lang/String" "COMPACT_STRINGS" "Z" ∈ Ts) (hdg : decode cc pc = .ok (.getstatic index, 3)) (kk : An G p l e R s m args below meth c nL cells slots Q (pc + 3) lst (.int 1 :: rest) n f) : An G p l e R s m args below meth c nL cells slots Q pc lst rest n f :=
  fun H locs ls hP hS hl => va_gets C.1.1.1 C.1.1.2.1 C.1.2.2.2.2.2.2.2.2.2.2.2.2.2.1 hS C.1.1.2.2.2.1 (C.1.1.2.2.2.2 _ hlk) (fun _ h9 => h9) hdg (kk H locs ls hP hS hl)
theorem n_getR (C : Nx G p s m args c cc Ts own nL) {k ci j N index : Nat} {fs : List Value} {v : Value} {Cn : String} {T : u_T} (hin : ∀ w ∈ u_ws Cn T N, w ∈ Ts) (hk : k < n) (he : f k = .inr (ci, fs)) (hc : vwCl[ci]? = some (Cn, T, N)) (hjN : j < N) (hv : fs[j]? = some v) (hlk : Cond.fieldLink own index (T j).1 (T j).2.1 (T j).2.2.1 ∈ Ts) (hdg : decode cc pc = .ok (.getfield index, 3)) (kk : An G p l e R s m args below meth c nL cells slots Q (pc + 3) lst (v :: rest) n f) : An G p l e R s m args below meth c nL cells slots Q pc lst (.ref (x_b G + k) :: rest) n f :=
  fun H locs ls hP hS hl => va_get (D := x_D G) (ci := ci) (C := Cn) (T := T) (N := N) C.1.1.1 C.1.1.2.1 C.1.1.2.2.2.2 hin C.1.1.2.2.2.1 C.1.2.1 hP.ws k ((n_wget G f hk).trans (by rw [he])) hc j hjN (C.1.1.2.2.2.2 _ hlk) (fun _ h9 => h9) hv hdg (kk H locs ls hP hS hl)
theorem n_put (C : Nx G p s m args c cc Ts own nL) {k ci j N index : Nat} {fs fs2 : List Value} {v : Value} {Cn : String} {T : u_T} {ty0 : Nat → FieldType} {ty : FieldType} (hin : ∀ w ∈ u_ws Cn T N, w ∈ Ts) (hty : ∀ k, k < N → parseFieldDescriptor (T k).2.2.1 = some (ty0 k)) (hnm : ∀ a, a < N → ∀ b, b < N → a ≠ b → (T a).2.1 ≠ (T b).2.1) (hk : k < n) (he : f k = .inr (ci, fs)) (hc : vwCl[ci]? = some (Cn, T, N)) (hjN : j < N) (hlk : Cond.fieldLink own index (T j).1 (T j).2.1 (T j).2.2.1 ∈ Ts) (hfin : (T j).2.2.2 = false) (hd : parseFieldDescriptor (T j).2.2.1 = some ty) (hn : narrow ty v = v) (hfit : fits ty v = true) (hl : j < fs.length) (hfs : fs.set j v = fs2) (hdg : decode cc pc = .ok (.putfield index, 3)) (kk : An G p l e R s m args below meth c nL cells slots Q (pc + 3) lst rest n (va_up f k (.inr (ci, fs2)))) : An G p l e R s m args below meth c nL cells slots Q pc lst (v :: .ref (x_b G + k) :: rest) n f := by
  intro H locs ls hP hS0 hl0
  subst hfs
  have hts := C.1.1.2.2.2.2
  have hown := C.1.1.2.2.2.1
  have hK := C.1.2.1
  have hap := va_apart (own := own) hts hin ty0 hty hnm hK hc
  have h0 := hP.2 k hk
  rw [he] at h0
  obtain ⟨r, h1, cell, q1, q2, q3, q4⟩ := h0
  have hr : r = (Cn, T, N) := Option.some.inj (h1.symm.trans hc)
  subst hr
  obtain ⟨hS, hfc, kC, hkC, hkind⟩ := hK.1 ci _ hc
  obtain ⟨cf, kf, fi, f9, hi, hsl⟩ := hS j hjN
  have hlay := hts _ (hin _ (u_in_lay hjN))
  unfold u_lay at hlay
  rw [if_neg (by rw [hfin]; decide)] at hlay
  have hst := (u_facts hfc hkC (u_lays hts hin hjN) hi).1
  have h6 := u_store hfc hkC hkind hlay hi hd hn hfit
  refine W.putK C.1.1.1 C.1.1.2.1 (f := f9) ⟨hown, hts _ hlk, ⟨_, _, _, hi⟩, hst⟩ (by rw [q2]; exact h6) q1 q3 (by rw [hsl]; exact k2_hasslot (q4 j hjN)) rfl rfl hdg fun H' e1 e2 e3 => ?_
  rw [hsl] at e1 ⊢
  exact kk H' _ ls (hP.upd ⟨_, hc, t_OB.to (V := updV (vp_V fs) j v) ⟨_, e1, q2, q3, t_set q4 hap hjN v⟩ (fun i _ => vp_updV_set hl v i)⟩ e2 e3) (hS0.put e2 e3 (C.2.1 _ (Nat.le_add_right _ _))) hl0
theorem n_putF (C : Nx G p s m args c cc Ts own nL) {k ci j N index : Nat} {fs fs2 : List Value} {v : Value} {Cn : String} {T : u_T} {ty0 : Nat → FieldType} {ty : FieldType} (hin : ∀ w ∈ u_ws Cn T N, w ∈ Ts) (hty : ∀ k, k < N → parseFieldDescriptor (T k).2.2.1 = some (ty0 k)) (hnm : ∀ a, a < N → ∀ b, b < N → a ≠ b → (T a).2.1 ≠ (T b).2.1) (hk : k < n) (he : f k = .inr (ci, fs)) (hc : vwCl[ci]? = some (Cn, T, N)) (hjN : j < N) (hlk : Cond.fieldLink own index (T j).1 (T j).2.1 (T j).2.2.1 ∈ Ts) (hfin : (T j).2.2.2 = true) (hini : meth.name = "<init>") (hdecl : (T j).1 = own) (hd : parseFieldDescriptor (T j).2.2.1 = some ty) (hn : narrow ty v = v) (hfit : fits ty v = true) (hl : j < fs.length) (hfs : fs.set j v = fs2) (hdg : decode cc pc = .ok (.putfield index, 3)) (kk : An G p l e R s m args below meth c nL cells slots Q (pc + 3) lst rest n (va_up f k (.inr (ci, fs2)))) : An G p l e R s m args below meth c nL cells slots Q pc lst (v :: .ref (x_b G + k) :: rest) n f := by
  intro H locs ls hP hS0 hl0
  subst hfs
  have hts := C.1.1.2.2.2.2
  have hown := C.1.1.2.2.2.1
  have hK := C.1.2.1
  have hap := va_apart (own := own) hts hin ty0 hty hnm hK hc
  have h0 := hP.2 k hk
  rw [he] at h0
  obtain ⟨r, h1, cell, q1, q2, q3, q4⟩ := h0
  have hr : r = (Cn, T, N) := Option.some.inj (h1.symm.trans hc)
  subst hr
  obtain ⟨hS, hfc, kC, hkC, hkind⟩ := hK.1 ci _ hc
  obtain ⟨cf, kf, fi, f9, hi, hsl⟩ := hS j hjN
  have hlay := hts _ (hin _ (u_in_lay hjN))
  unfold u_lay at hlay
  rw [if_pos hfin] at hlay
  have hst := (u_facts hfc hkC (u_lays hts hin hjN) hi).1
  have hcf : m.cls = cf := by
    obtain ⟨_, _, c', _, _, _, -, -, hf', -, -, -, hown2, -⟩ := Cond.laysFinal_spec hlay
    have e1 : c' = cf := by have := hi.symm.trans hf'; simp at this; exact this.1.symm
    rw [hdecl] at hown2
    rw [← e1]; exact Option.some.inj (hown.symm.trans hown2)
  have h6 := u_fits hfc hkC hkind (Or.inr hlay) hi hd hn hfit
  refine W.putFinK C.1.1.1 C.1.1.2.1 hown (hts _ hlk) hi hst hcf hini (by rw [q2]; exact h6) q1 q3 (by rw [hsl]; exact k2_hasslot (q4 j hjN)) rfl rfl hdg fun H' e1 e2 e3 => ?_
  rw [hsl] at e1 ⊢
  exact kk H' _ ls (hP.upd ⟨_, hc, t_OB.to (V := updV (vp_V fs) j v) ⟨_, e1, q2, q3, t_set q4 hap hjN v⟩ (fun i _ => vp_updV_set hl v i)⟩ e2 e3) (hS0.put e2 e3 (C.2.1 _ (Nat.le_add_right _ _))) hl0
theorem n_new (C : Nx G p s m args c cc Ts own nL) {ci N index n2 : Nat} {Cn : String} {T : u_T} {fs : List Value} (hin : ∀ w ∈ u_ws Cn T N, w ∈ Ts) (ty : Nat → FieldType) (hty : ∀ k, k < N → parseFieldDescriptor (T k).2.2.1 = some (ty k)) (hcl : Cond.classLink own index Cn ∈ Ts) (hinst : Cond.instantiable Cn N ∈ Ts) (hini : Cond.initialized Cn ∈ Ts) (hc : vwCl[ci]? = some (Cn, T, N)) (hfs : ∀ j, j < N → defaultValue (ty j) = vp_V fs j) (hcells : cells + 1 ≤ R.cells) (hslots : slots + N ≤ R.slots) (hn2 : n + 1 = n2) (hdg : decode cc pc = .ok (.new index, 3)) (kk : An G p l e R s m args below meth c nL (cells + 1) (slots + N) Q (pc + 3) lst (.ref (x_b G + n) :: rest) n2 (va_up f n (.inr (ci, fs)))) : An G p l e R s m args below meth c nL cells slots Q pc lst rest n f := by
  intro H locs ls hP hS hl
  have hts := C.1.1.2.2.2.2
  have hKn := C.1.2.1.1 ci _ hc
  refine W.newcK C.1.1.1 C.1.1.2.1 C.1.1.2.2.2.1 (hts _ hcl) (hts _ hinst) (hts _ hini) rfl hdg hcells hslots hKn.2.1 hP.1 fun H1 kC hkC e1 z1 o1 => ?_
  exact kk H1 locs ls (hP.push hn2 ⟨_, hc, (u_born ty hts hin hKn hkC e1 hty).to hfs⟩ z1 o1) ⟨Nat.le_trans hS.1 (by have := hP.1; omega), fun x h1 h2 => (o1 x (by have := hP.1; have := hS.1; omega)).trans (hS.2.1 x h1 h2), hS.2.2⟩ hl
theorem n_newa (C : Nx G p s m args c cc Ts own nL) {atype : ArrayType} {t N n2 : Nat} {x : Int32} {a0 : Sum (Nat → Int32) (Sum (Nat → Int64) (Sum (Nat → UInt32) (Sum (Nat → UInt64) (Nat → Option Nat))))} (harr : Cond.arrayClass (newarray.typeOf atype) ∈ Ts) (ht : (x_ty G)[t]? = some (x_c G t, newarray.typeOf atype)) (ha : vp_cell (x_c G t) (N, a0) = arrV (x_c G t) N (fun _ => defaultValue (newarray.typeOf atype))) (hx : ¬ x < 0) (hN : x.toNatClampNeg = N) (hbytes : N * componentBytes (newarray.typeOf atype) ≤ 536870912) (hcells : cells + 1 ≤ R.cells) (hslots : slots + N ≤ R.slots) (hn2 : n + 1 = n2) (hdg : decode cc pc = .ok (.newarray atype, 2)) (kk : An G p l e R s m args below meth c nL (cells + 1) (slots + N) Q (pc + 2) lst (.ref (x_b G + n) :: rest) n2 (va_up f n (.inl (x_c G t, N, a0)))) : An G p l e R s m args below meth c nL cells slots Q pc lst (.int x :: rest) n f := by
  intro H locs ls hP hS hl
  have h9 := (C.1.2.1.2 t _ ht).2
  have h9 : s.vm.findClass ("[" ++ (newarray.typeOf atype).toString) = some (x_c G t) := by cases atype <;> exact h9
  refine va_newaK C.1.1.1 C.1.1.2.1 (C.1.1.2.2.2.2 _ harr) rfl hdg rfl hx hN hbytes hcells hslots hP.1 fun H1 cA e1 z1 o1 hAr hNm => ?_
  obtain rfl := Option.some.inj (h9.symm.trans hNm)
  exact kk H1 locs ls (hP.push hn2 (by show H1[_]? = some (vp_cell _ _); rw [ha]; exact e1) z1 o1) ⟨Nat.le_trans hS.1 (by have := hP.1; omega), fun x h1 h2 => (o1 x (by have := hP.1; have := hS.1; omega)).trans (hS.2.1 x h1 h2), hS.2.2⟩ hl
theorem n_newq (C : Nx G p s m args c cc Ts own nL) {Cn : String} {t N n2 index : Nat} {x : Int32} (hcl : Cond.classLink own index Cn ∈ Ts) (hover : va_AO Cn s) (ht : (x_ty G)[t]? = some (x_c G t, .object Cn)) (hx : ¬ x < 0) (hN : x.toNatClampNeg = N) (hbytes : N * 4 ≤ 536870912) (hcells : cells + 1 ≤ R.cells) (hslots : slots + N ≤ R.slots) (hn2 : n + 1 = n2) (hdg : decode cc pc = .ok (.anewarray index, 3)) (kk : An G p l e R s m args below meth c nL (cells + 1) (slots + N) Q (pc + 3) lst (.ref (x_b G + n) :: rest) n2 (va_up f n (.inl (x_c G t, N, .inr (.inr (.inr (.inr (fun _ => none)))))))) : An G p l e R s m args below meth c nL cells slots Q pc lst (.int x :: rest) n f := by
  intro H locs ls hP hS hl
  subst hN
  obtain ⟨kA0, comp0, w1, w2, w3, h9⟩ := (C.1.2.1.2 t _ ht).2
  refine W.anew C.1.1.1 C.1.1.2.1 C.1.1.2.2.2.1 (C.1.1.2.2.2.2 _ hcl) (va_AO.use hover) rfl hdg rfl hx hbytes hcells hslots fun cA kA comp f1 f2 f3 f4 => ?_
  obtain rfl := Option.some.inj (h9.symm.trans f1)
  have hs := hP.1
  rw [hs]
  generalize hH1 : H.push ({ cls := x_c G t, slots := Array.replicate x.toNatClampNeg .null, vm := .none } : Cell) = H1
  have z1 : H1.size = x_b G + n + 1 := by rw [← hH1, Array.size_push, hs]
  have e1 : H1[x_b G + n]? = some (arrV (x_c G t) x.toNatClampNeg (fun _ => .null)) := by rw [← hH1, ← hs, Array.getElem?_push_size, ← arrV_new]
  have o1 : ∀ q : Nat, q < x_b G + n → H1[q]? = H[q]? := fun q hq => by rw [← hH1, Array.getElem?_push, if_neg (by omega)]
  exact kk H1 locs ls (hP.push hn2 (by show H1[_]? = some (vp_cell _ _); rw [vp_cell_q]; exact e1) z1 o1) ⟨Nat.le_trans hS.1 (by omega), fun x h1 h2 => (o1 x (by have := hS.1; omega)).trans (hS.2.1 x h1 h2), hS.2.2⟩ hl
theorem n_astq (C : Nx G p s m args c cc Ts own nL) {k k2 t ci N i : Nat} {r : vw_C} {vs : List Value} {g g2 : Nat → Option Nat} {x : Int32} (hk : k < n) (he : f k = .inl (x_c G t, N, .inr (.inr (.inr (.inr g))))) (ht : (x_ty G)[t]? = some (x_c G t, .object r.1)) (hk2 : k2 < n) (he2 : f k2 = .inr (ci, vs)) (hc : vwCl[ci]? = some r) (hx : x = nI i) (hi : i < N) (hN : N < 1000) (hg : va_up g i (some (x_b G + k2)) = g2) (hdg : decode cc pc = .ok (.aastore, 1)) (kk : An G p l e R s m args below meth c nL cells slots Q (pc + 1) lst rest n (va_up f k (.inl (x_c G t, N, .inr (.inr (.inr (.inr g2))))))) : An G p l e R s m args below meth c nL cells slots Q pc lst (.ref (x_b G + k2) :: .int x :: .ref (x_b G + k) :: rest) n f := by
  intro H locs ls hP hS hl
  subst hx
  subst hg
  have h0 := hP.2 k hk
  rw [he] at h0
  have h2 := hP.2 k2 hk2
  rw [he2] at h2
  obtain ⟨r', hr', cellV, v1, v2, v3, -⟩ := h2
  have hcls := (C.1.2.1.1 ci r hc).2
  obtain ⟨kA, comp, j1, j2, j3, -⟩ := (C.1.2.1.2 t _ ht).2
  have hcomp : comp = (x_D G).1 ci := Option.some.inj (j3.symm.trans hcls.1)
  subst hcomp
  obtain ⟨kC, hkC, -⟩ := hcls.2
  have hcl : (nI i).toNatClampNeg = i := nI_clamp (by omega)
  refine W.aast C.1.1.1 C.1.1.2.1 h0 (fun q h => by cases h) (fun h => by cases h) j1 j2 rfl hkC ⟨fun q => x_vp hi (by omega) (Or.inl q), by show _ < (arrV _ _ _).slots.size; rw [arrV_size, hcl]; exact hi⟩ v1 (fun q h => by rw [v3] at h; cases h) (by rw [v2]; exact hkC) (by rw [v2]; exact va_assign hcls) rfl rfl hdg fun H1 e1 z oq => ?_
  refine kk H1 _ ls (hP.upd ?_ z oq) (hS.put z oq (C.2.1 _ (Nat.le_add_right _ _))) hl
  show H1[x_b G + k]? = some (vp_cell _ _)
  rw [e1]
  show some ((vp_cell _ _).setSlot _ _) = _
  rw [vp_cell_q, vp_cell_q, arrV_store, hcl]
  congr 2
  funext q
  by_cases hq : q = i
  · subst hq
    simp [updV, va_up, va_rf]
  · simp [updV, va_up, hq]
theorem n_alt {st : List Value} {k : Nat} {e1 e2 : va_E} (he : f k = e1) (hk : k < n) (hv : ∀ H : Heap, va_at (x_D G) vwCl (x_b G + k, e1) H → va_at (x_D G) vwCl (x_b G + k, e2) H) (kk : An G p l e R s m args below meth c nL cells slots Q pc lst st n (va_up f k e2)) : An G p l e R s m args below meth c nL cells slots Q pc lst st n f := fun H locs ls hP hS hl => kk H locs ls (hP.upd (hv H (by rw [← he]; exact hP.2 k hk)) rfl (fun _ _ => rfl)) hS hl
theorem n_cong {st : List Value} {g : nF} (hfg : ∀ k, k < n → g k = f k) (kk : An G p l e R s m args below meth c nL cells slots Q pc lst st n g) : An G p l e R s m args below meth c nL cells slots Q pc lst st n f := fun H locs ls hP hS hl => kk H locs ls (hP.cong hfg) hS hl
theorem n_toN {st : List Value} {n2 : Nat} (h : n = n2) (kk : An G p l e R s m args below meth c nL cells slots Q pc lst st n2 f) : An G p l e R s m args below meth c nL cells slots Q pc lst st n f := by
  subst h
  exact kk
theorem n_go {mc ms : Nat} {ls : Array Slot} {st0 : List Value} {H : Heap} {locs : List Loc} {a : Array Value} {n2 : Nat} {f2 : nF} (hr : va_Run p l e R s m args below meth c H locs cells slots mc ms (F0 m pc ls st0) rest (n_Q G n2 f2 a) (x_A G)) (hS : va_S (x_A G) s.heap H locs) (hl : lv_has ls nL lst)
    (kk : An G p l e R s m args below meth c nL (cells + mc) (slots + ms) Q (pc + 3) lst rest n2 f2) : W p l e R s m args below meth c H locs cells slots Q (F0 m pc ls st0) := by
  intro T hT X
  obtain ⟨v, st₀, t, T', L, h0, X', hL, e1, e2, ⟨hv, hu, hz, hk⟩, st⟩ := hr T hT X
  cases hv
  rw [h0] at hz hk
  obtain ⟨t2, a1, b1⟩ := kk T'.heap (locs ++ L) ls (by rw [e1]; exact hu)
    ⟨Nat.le_trans hS.1 (by rw [e1]; exact hz), fun q h1 h2 => by rw [e1, hk q (Nat.lt_of_lt_of_le h1 hS.1) h2]; exact hS.2.1 q h1 h2, fun q hq => by
      rcases List.mem_append.mp hq with h | h
      · exact hS.2.2 q h
      · exact hL q h⟩ hl T' rfl X'
  exact ⟨t2, st t2 a1, b1⟩
theorem n_pre {H : Heap} {locs : List Loc} {av : List Value} (hK : x_K G s) (hN : n_N G s) (hP : n_P G n f H) (hS : va_S (x_A G) s.heap H locs) : ∀ U : State, U.heap = H → s.WarmedH U.vm → va_Pc av (n_U G n f) av.toArray U := fun U hU hW => ⟨rfl, by rw [hU]; exact hP, hK.at hW hS hU, hN.warm hW⟩
theorem n_callI (C : Nx G p s m args c cc Ts own nL) {y : MethodName} {bytes : ByteArray} {maxL mc ms n9 index lv k n2 : Nat} {ws : List Cond} {As : List Value} {f2 : nF}
    (hM : n_M G l y ws lv mc ms (.ref (x_b G + k) :: As) n f n2 f2) (cw : CallB R s args own index y bytes maxL none ws (x_rm lv mc ms) mc ms n9 ∧ y.name = "<init>" ∧ (Cond.instanceMethod y).before args s = true) (hn : As.length = n9) {st : List Value} (hst : st = As.reverse ++ .ref (x_b G + k) :: rest) (hro : (rest.map fun v => v.category).sum ≤ 8) (hdg : decode cc pc = .ok (.invokespecial index, 3)) (hf : cells + mc ≤ R.cells ∧ slots + ms ≤ R.slots)
    (kk : An G p l e R s m args below meth c nL (cells + mc) (slots + ms) Q (pc + 3) lst rest n2 f2) : An G p l e R s m args below meth c nL cells slots Q pc lst st n f := by
  intro H locs ls hP hS hl
  subst hst
  exact n_go (va_runI (As := As) (rest := rest) C.1.1 hM cw ⟨n_blind G _ n f, n_pre C.1.2 C.2 hP hS⟩ rfl hn hl.1 rfl (lv_room hro) hdg hf) hS hl kk
theorem n_callN (C : Nx G p s m args c cc Ts own nL) {y : MethodName} {host : String} {bytes : ByteArray} {maxL mc ms n9 index lv k n2 : Nat} {ws : List Cond} {As : List Value} {f2 : nF}
    (hM : n_M G l y ws lv mc ms (.ref (x_b G + k) :: As) n f n2 f2) (cw : va_CN R s args own index y host bytes maxL none ws (x_rm lv mc ms) mc ms n9 ∧ y.name = "<init>" ∧ (Cond.instanceMethod y).before args s = true) (hn : As.length = n9) {st : List Value} (hst : st = As.reverse ++ .ref (x_b G + k) :: rest) (hro : (rest.map fun v => v.category).sum ≤ 8) (hdg : decode cc pc = .ok (.invokespecial index, 3)) (hf : cells + mc ≤ R.cells ∧ slots + ms ≤ R.slots)
    (kk : An G p l e R s m args below meth c nL (cells + mc) (slots + ms) Q (pc + 3) lst rest n2 f2) : An G p l e R s m args below meth c nL cells slots Q pc lst st n f := by
  intro H locs ls hP hS hl
  subst hst
  exact n_go (va_runIN (As := As) (rest := rest) C.1.1 hM cw ⟨n_blind G _ n f, n_pre C.1.2 C.2 hP hS⟩ rfl hn hl.1 rfl (lv_room hro) hdg hf) hS hl kk
theorem n_vret (C : Nx G p s m args c cc Ts own nL) (hlocks : meth.locks = false) (hr : meth.sig.returnType = none) {f2 : nF} (hdg : decode cc pc = .ok (.return_, 1)) (hfg : ∀ k, k < n → f2 k = f k) : An G p l e R s m args below meth c nL cells slots (MQ below (n_Q G n f2) args s cells slots (x_A G)) pc lst [] n f := fun H locs ls hP hS hl =>
  W.vret C.1.1.1 C.1.1.2.1 hr (fun t ht _ => ⟨rfl, by rw [ht]; exact hP.cong hfg, hS.F ht⟩) hS.2.2 hdg hlocks
/-- a constructor's start -/
theorem n_start {y : MethodName} {ws ws2 : List Cond} {lv mc ms maxL n2 : Nat} {av : List Value} {f2 : nF} (hy : plainName y.cls = true) (hw : ws = Cond.code y cc maxL none :: ws2) (ho : y.cls = own) (hnm : y.name = "<init>") (hlen : (lg_sl av).length ≤ maxL) (hlst : lv_args 0 av = lst)
    (body : ∀ (p : Program) (e : Env) (s : State) (m : MethodId) (args : Array Value) (below : List Frame) (meth : Method) (c : Code), Nx G p s m args c cc ws own maxL → meth.name = "<init>" → meth.sig.returnType = none → meth.locks = false → An G p l e (x_rm lv mc ms) s m args below meth c maxL 0 0 (MQ below (n_Q G n2 f2) args s mc ms (x_A G)) 0 lst [] n f) : n_M G l y ws lv mc ms av n f n2 f2 := by
  refine Met.ofW (cc := cc) (maxL := maxL) (ret := none) hy hw ?_
  intro p e s m args below meth c s₁ B hml hv
  obtain ⟨rfl, hP, hK, hN⟩ := hv
  have hl := lv_entry av (n := maxL) hlen
  rw [lg_entry_eq]
  rw [hlst] at hl
  exact body p e s m _ below meth c ⟨⟨⟨B.exec, B.bytes, hml, ho ▸ findClass_of_methodNamed B.named, atoms_spec (ws := ws) B.pre⟩, hK⟩, hN⟩ ((name_of_methodNamed B.named B.method).1.trans hnm) B.returns B.notSynchronized s.heap [] _ hP va_S.rf hl
end NROWS

