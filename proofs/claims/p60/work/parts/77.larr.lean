/-! arrays that the law makes: the k-th lies at ad k and holds f k -/
def l_arr (G : xG) (sz n : Nat) (ad : Nat → Nat) (f : nF) (H : Heap) : Prop := (∀ k, k < n → sz ≤ ad k ∧ va_at (x_D G) vwCl (ad k, f k) H) ∧ ∀ i j, i < n → j < n → ad i = ad j → i = j
def l_PA (G : xG) (d : xd) (sz n : Nat) (ad : Nat → Nat) (f : nF) (H : Heap) : Prop := va_P (x_D G) vwCl (x_ws G d) H ∧ l_arr G sz n ad f H
def l_up (ad : Nat → Nat) (n a : Nat) : Nat → Nat := fun k => if k = n then a else ad k
theorem l_up_at (ad : Nat → Nat) (n a : Nat) : l_up ad n a n = a := if_pos rfl
theorem l_up_ne (ad : Nat → Nat) {n k : Nat} (a : Nat) (h : k ≠ n) : l_up ad n a k = ad k := if_neg h
theorem l_arr.lt {G : xG} {sz n : Nat} {ad : Nat → Nat} {f : nF} {H : Heap} (h : l_arr G sz n ad f H) {k : Nat} (hk : k < n) : ad k < H.size := (h.1 k hk).2.lt
theorem l_arr.kept {G : xG} {sz n : Nat} {ad : Nat → Nat} {f : nF} {H H1 : Heap} (h : l_arr G sz n ad f H) (hq : ∀ k, k < n → H1[ad k]? = H[ad k]?) : l_arr G sz n ad f H1 := ⟨fun k hk => ⟨(h.1 k hk).1, (h.1 k hk).2.kept (hq k hk)⟩, h.2⟩
theorem l_arr.cong {G : xG} {sz n : Nat} {ad ad2 : Nat → Nat} {f f2 : nF} {H : Heap} (h : l_arr G sz n ad f H) (hf : ∀ k, k < n → f2 k = f k) (ha : ∀ k, k < n → ad2 k = ad k) : l_arr G sz n ad2 f2 H := ⟨fun k hk => by rw [hf k hk, ha k hk]; exact h.1 k hk, fun i j hi hj e => h.2 i j hi hj (by rw [← ha i hi, ← ha j hj]; exact e)⟩
theorem l_arr.push {G : xG} {sz n a : Nat} {ad : Nat → Nat} {f : nF} {H H1 : Heap} {e : va_E} (h : l_arr G sz n ad f H) (ha : a = H.size) (hsz : sz ≤ a) (he : va_at (x_D G) vwCl (a, e) H1) (oq : ∀ q, q < a → H1[q]? = H[q]?) : l_arr G sz (n + 1) (l_up ad n a) (va_up f n e) H1 := by
  refine ⟨fun k hk => ?_, fun i j hi hj e9 => ?_⟩
  · by_cases hkn : k = n
    · subst hkn
      rw [va_up_self, l_up_at]
      exact ⟨hsz, he⟩
    · have hl := h.lt (k := k) (by omega)
      rw [va_up_ne _ _ hkn, l_up_ne _ _ hkn]
      exact ⟨(h.1 k (by omega)).1, (h.1 k (by omega)).2.kept (oq _ (by omega))⟩
  · by_cases hin : i = n
    · by_cases hjn : j = n
      · omega
      · have hl := h.lt (k := j) (by omega)
        rw [hin, l_up_at, l_up_ne _ _ hjn] at e9
        omega
    · by_cases hjn : j = n
      · have hl := h.lt (k := i) (by omega)
        rw [hjn, l_up_at, l_up_ne _ _ hin] at e9
        omega
      · rw [l_up_ne _ _ hin, l_up_ne _ _ hjn] at e9
        exact h.2 i j (by omega) (by omega) e9
theorem l_arr.upd {G : xG} {sz n k : Nat} {ad : Nat → Nat} {f : nF} {H H1 : Heap} {e : va_E} (h : l_arr G sz n ad f H) (hk : k < n) (he : va_at (x_D G) vwCl (ad k, e) H1) (oq : ∀ q, q ≠ ad k → H1[q]? = H[q]?) : l_arr G sz n ad (va_up f k e) H1 := by
  refine ⟨fun i hi => ?_, h.2⟩
  by_cases hik : i = k
  · subst hik
    rw [va_up_self]
    exact ⟨(h.1 i hi).1, he⟩
  · rw [va_up_ne _ _ hik]
    exact ⟨(h.1 i hi).1, (h.1 i hi).2.kept (oq _ (fun y => hik (h.2 i k hi hk y)))⟩
theorem l_P_kept {G : xG} {d : xd} {H H1 : Heap} (hP : va_P (x_D G) vwCl (x_ws G d) H) (hq : ∀ q, x_b G ≤ q → q < x_b G + 175 → H1[q]? = H[q]?) : va_P (x_D G) vwCl (x_ws G d) H1 := hP.kept (fun k q hk => by
  simp only [x_ws, List.getElem?_mapIdx, Option.map_eq_some_iff] at hk
  obtain ⟨a, ha, rfl⟩ := hk
  have hl := (List.getElem?_eq_some_iff.mp ha).1
  rw [x_sh_len] at hl
  exact hq _ (Nat.le_add_right _ _) (by show x_b G + k < _; omega))
theorem l_P_lt {G : xG} {d : xd} {H : Heap} (hP : va_P (x_D G) vwCl (x_ws G d) H) : x_b G + 175 ≤ H.size := by
  have h := (hP 174 _ (x_get G d x_k174)).lt
  have h : x_b G + 174 < H.size := h
  omega
section LARR
variable {p : Program} {l : Launch} {e : Env} {R : Room} {s : State} {m : MethodId} {args : Array Value} {below : List Frame} {meth : Method} {c : Code} {nL cells slots : Nat} {Q : State → Prop} {cc : ByteArray} {Ts : List Cond} {own : String} {pc : Nat} {lst : List (Nat × Value)} {rest : List Value} {G : xG} {d : xd} {n : Nat} {ad : Nat → Nat} {f : nF}
theorem x_AI (C : Cx G p s m args c cc Ts own nL) : va_AI s := by
  obtain ⟨-, -, -, h1, h2, h3, h4, h5, h6, h7, h8, h9, h10, h11, h12, h13, h14, h15, h16, h17, h18⟩ := C
  exact h12
theorem l_newi (C : Cx G p s m args c cc Ts own nL) (hb : x_b G + 175 ≤ s.heap.size) {N : Nat} {x : Int32} (harr : Cond.arrayClass .int ∈ Ts) (hx : ¬ x < 0) (hN : x.toNatClampNeg = N) (hbytes : N * componentBytes .int ≤ 536870912) (hcells : cells + 1 ≤ R.cells) (hslots : slots + N ≤ R.slots) (hdg : decode cc pc = .ok (.newarray .int, 2))
    (kk : ∀ a : Nat, Lb p l e R s m args below meth c nL (cells + 1) (slots + N) Q (x_A G) (l_PA G d s.heap.size (n + 1) (l_up ad n a) (va_up f n (.inl (x_c G 0, N, .inl (fun _ => 0))))) (pc + 2) lst (.ref a :: rest)) : Lb p l e R s m args below meth c nL cells slots Q (x_A G) (l_PA G d s.heap.size n ad f) pc lst (.int x :: rest) := by
  intro H locs ls hP hS hl
  have h9 : s.vm.findClass ("[" ++ (newarray.typeOf .int).toString) = some (x_c G 0) := (C.2.1.2 0 _ rfl).2
  refine va_newaK (atype := .int) C.1.1 C.1.2.1 (C.1.2.2.2.2 _ harr) rfl hdg rfl hx hN hbytes hcells hslots rfl fun H1 cA e1 z1 o1 hAr hNm => ?_
  obtain rfl := Option.some.inj (h9.symm.trans hNm)
  exact kk H.size H1 locs ls ⟨l_P_kept hP.1 (fun q h1 h2 => o1 q (by have := hS.1; omega)), hP.2.push rfl hS.1 (by show H1[_]? = some (vp_cell _ _); rw [n_dv _ _ .int rfl]; exact e1) o1⟩ ⟨Nat.le_trans hS.1 (by omega), fun x h1 h2 => (o1 x (by have := hS.1; omega)).trans (hS.2.1 x h1 h2), hS.2.2⟩ hl
theorem l_newq (C : Cx G p s m args c cc Ts own nL) (hb : x_b G + 175 ≤ s.heap.size) {N index : Nat} {x : Int32} (hcl : Cond.classLink own index "[I" ∈ Ts) (hx : ¬ x < 0) (hN : x.toNatClampNeg = N) (hbytes : N * 4 ≤ 536870912) (hcells : cells + 1 ≤ R.cells) (hslots : slots + N ≤ R.slots) (hdg : decode cc pc = .ok (.anewarray index, 3))
    (kk : ∀ a : Nat, Lb p l e R s m args below meth c nL (cells + 1) (slots + N) Q (x_A G) (l_PA G d s.heap.size (n + 1) (l_up ad n a) (va_up f n (.inl (x_c G 6, N, .inr (.inr (.inr (.inr (fun _ => none)))))))) (pc + 3) lst (.ref a :: rest)) : Lb p l e R s m args below meth c nL cells slots Q (x_A G) (l_PA G d s.heap.size n ad f) pc lst (.int x :: rest) := by
  intro H locs ls hP hS hl
  subst hN
  have h9 : s.vm.findClass ("[" ++ (FieldType.array .int).toString) = some (x_c G 6) := (C.2.1.2 6 _ rfl).2
  refine W.anewA (t := .int) C.1.1 C.1.2.1 C.1.2.2.2.1 (C.1.2.2.2.2 _ hcl) (over_moved (Vm.Alike.refl s.vm) (x_AI C)) rfl hdg rfl hx hbytes hcells hslots fun cA kA comp f1 f2 f3 f4 => ?_
  obtain rfl := Option.some.inj (h9.symm.trans f1)
  generalize hH1 : H.push ({ cls := x_c G 6, slots := Array.replicate x.toNatClampNeg .null, vm := .none } : Cell) = H1
  have z1 : H1.size = H.size + 1 := by rw [← hH1, Array.size_push]
  have e1 : H1[H.size]? = some (arrV (x_c G 6) x.toNatClampNeg (fun _ => .null)) := by rw [← hH1, Array.getElem?_push_size, ← arrV_new]
  have o1 : ∀ q : Nat, q < H.size → H1[q]? = H[q]? := fun q hq => by rw [← hH1, Array.getElem?_push, if_neg (by omega)]
  exact kk H.size H1 locs ls ⟨l_P_kept hP.1 (fun q h1 h2 => o1 q (by have := hS.1; omega)), hP.2.push rfl hS.1 (by show H1[_]? = some (vp_cell _ _); rw [vp_cell_q]; exact e1) o1⟩ ⟨Nat.le_trans hS.1 (by omega), fun x h1 h2 => (o1 x (by have := hS.1; omega)).trans (hS.2.1 x h1 h2), hS.2.2⟩ hl
theorem l_iast (C : Cx G p s m args c cc Ts own nL) (hb : x_b G + 175 ≤ s.heap.size) {k N i : Nat} {w : Nat → Int32} {x y : Int32} (hk : k < n) (he : f k = .inl (x_c G 0, N, .inl w)) (hx : x = nI i) (hi : i < N) (hN : N < 1000) (hdg : decode cc pc = .ok (.iastore, 1))
    (kk : Lb p l e R s m args below meth c nL cells slots Q (x_A G) (l_PA G d s.heap.size n ad (va_up f k (.inl (x_c G 0, N, .inl (upd w i y))))) (pc + 1) lst rest) : Lb p l e R s m args below meth c nL cells slots Q (x_A G) (l_PA G d s.heap.size n ad f) pc lst (.int y :: .int x :: .ref (ad k) :: rest) := by
  intro H locs ls hP hS hl
  subst hx
  obtain ⟨hsz, h0⟩ := hP.2.1 k hk
  rw [he] at h0
  have hcl : (nI i).toNatClampNeg = i := nI_clamp (by omega)
  refine W.iast C.1.1 C.1.2.1 h0 ((C.2.1.2 0 _ rfl).1 N (fun j => .int (w j))) (fun q => by cases q) (by show ¬ (_ < 0 ∨ (arrV _ _ _).slots.size ≤ _); rw [arrV_size]; exact x_vp (n := N) hi (by omega)) rfl rfl hdg fun H1 e z oq => ?_
  have oq : ∀ q, q ≠ ad k → H1[q]? = H[q]? := oq
  refine W.forget (L := [_]) (fun q hq => by cases List.mem_singleton.mp hq; exact hsz) ?_
  refine kk H1 locs ls ⟨l_P_kept hP.1 (fun q h1 h2 => oq q (by omega)), hP.2.upd hk ?_ oq⟩ ⟨by rw [z]; exact hS.1, fun q h1 h2 => (oq q (by omega)).trans (hS.2.1 q h1 h2), hS.2.2⟩ hl
  show H1[ad k]? = some (vp_cell _ _)
  rw [e]
  rw [vp_cell_i, vp_cell_i, arrV_store, hcl]
  congr 2
  funext q
  by_cases hq : q = i
  · subst hq
    simp [updV, upd]
  · simp [updV, upd, hq]
theorem l_aast (C : Cx G p s m args c cc Ts own nL) (hb : x_b G + 175 ≤ s.heap.size) {k k2 N N2 i : Nat} {w : Nat → Int32} {g g2 : Nat → Option Nat} {x : Int32} (hk : k < n) (he : f k = .inl (x_c G 6, N, .inr (.inr (.inr (.inr g))))) (hk2 : k2 < n) (he2 : f k2 = .inl (x_c G 0, N2, .inl w)) (hx : x = nI i) (hi : i < N) (hN : N < 1000) (hg : va_up g i (some (ad k2)) = g2) (hdg : decode cc pc = .ok (.aastore, 1))
    (kk : Lb p l e R s m args below meth c nL cells slots Q (x_A G) (l_PA G d s.heap.size n ad (va_up f k (.inl (x_c G 6, N, .inr (.inr (.inr (.inr g2))))))) (pc + 1) lst rest) : Lb p l e R s m args below meth c nL cells slots Q (x_A G) (l_PA G d s.heap.size n ad f) pc lst (.ref (ad k2) :: .int x :: .ref (ad k) :: rest) := by
  intro H locs ls hP hS hl
  subst hx
  subst hg
  obtain ⟨hsz, h0⟩ := hP.2.1 k hk
  rw [he] at h0
  have h2 := (hP.2.1 k2 hk2).2
  rw [he2] at h2
  have hcl : (nI i).toNatClampNeg = i := nI_clamp (by omega)
  obtain ⟨comp, cA, kA, g1, -, g3, g4, g5⟩ := arrayOverA_spec (x_AI C)
  have h9 : s.vm.findClass ("[" ++ (FieldType.array .int).toString) = some (x_c G 6) := (C.2.1.2 6 _ rfl).2
  have h8 : s.vm.findClass (FieldType.array .int).toString = some (x_c G 0) := (C.2.1.2 0 _ rfl).2
  obtain rfl := Option.some.inj (h9.symm.trans g5)
  obtain rfl := Option.some.inj (h8.symm.trans g1)
  obtain ⟨-, kC, hkC, -⟩ := (C.2.1.2 0 _ rfl).1 N2 (fun j => .int (w j))
  have hkC : s.vm.classes[x_c G 0]? = some kC := hkC
  have has : s.vm.assignable (x_c G 0) (x_c G 0) = true := by
    show Vm.assignableAux s.vm (255 + 1) (x_c G 0) (x_c G 0) = true
    rw [Vm.assignableAux]
    simp
  refine W.aast C.1.1 C.1.2.1 h0 (fun q h => by cases h) (fun h => by cases h) g3 g4 rfl hkC ⟨fun q => x_vp hi (by omega) (Or.inl q), by show _ < (arrV _ _ _).slots.size; rw [arrV_size, hcl]; exact hi⟩ h2 (fun q h => by cases h) hkC has rfl rfl hdg fun H1 e z oq => ?_
  have oq : ∀ q, q ≠ ad k → H1[q]? = H[q]? := oq
  refine W.forget (L := [_]) (fun q hq => by cases List.mem_singleton.mp hq; exact hsz) ?_
  refine kk H1 locs ls ⟨l_P_kept hP.1 (fun q h1 h2 => oq q (by omega)), hP.2.upd hk ?_ oq⟩ ⟨by rw [z]; exact hS.1, fun q h1 h2 => (oq q (by omega)).trans (hS.2.1 q h1 h2), hS.2.2⟩ hl
  show H1[ad k]? = some (vp_cell _ _)
  rw [e]
  show some ((vp_cell _ _).setSlot _ _) = _
  rw [vp_cell_q, vp_cell_q, arrV_store, hcl]
  congr 2
  funext q
  by_cases hq : q = i
  · subst hq
    simp [updV, va_up, va_rf]
  · simp [updV, va_up, hq]
theorem l_arr.one {H : Heap} {sz k : Nat} (h : l_arr G sz n ad f H) (hk : k < n) : va_P (x_D G) vwCl [(ad k, f k)] H := by
  intro j q hq
  cases j with
  | zero =>
    obtain rfl := Option.some.inj hq
    exact (h.1 k hk).2
  | succ j => simp at hq
theorem l_alenI (C : Cx G p s m args c cc Ts own nL) {k N sz : Nat} {w : Nat → Int32} {v : Int32} (hk : k < n) (he : f k = .inl (x_c G 0, N, .inl w)) (hv : Int32.ofNat N = v) (hdg : decode cc pc = .ok (.arraylength, 1)) (kk : Lb p l e R s m args below meth c nL cells slots Q (x_A G) (l_PA G d sz n ad f) (pc + 1) lst (.int v :: rest)) : Lb p l e R s m args below meth c nL cells slots Q (x_A G) (l_PA G d sz n ad f) pc lst (.ref (ad k) :: rest) := fun H locs ls hP hS hl => by
  have h1 := hP.2.one hk
  rw [he] at h1
  exact va_alen (D := x_D G) C.1.1 C.1.2.1 C.2.1 h1 0 0 rfl (ty := .int) rfl hv hdg (kk H locs ls hP hS hl)
theorem l_alenQ (C : Cx G p s m args c cc Ts own nL) {k N sz : Nat} {g : Nat → Option Nat} {v : Int32} (hk : k < n) (he : f k = .inl (x_c G 6, N, .inr (.inr (.inr (.inr g))))) (hv : Int32.ofNat N = v) (hdg : decode cc pc = .ok (.arraylength, 1)) (kk : Lb p l e R s m args below meth c nL cells slots Q (x_A G) (l_PA G d sz n ad f) (pc + 1) lst (.int v :: rest)) : Lb p l e R s m args below meth c nL cells slots Q (x_A G) (l_PA G d sz n ad f) pc lst (.ref (ad k) :: rest) := fun H locs ls hP hS hl => by
  have h1 := hP.2.one hk
  rw [he] at h1
  exact va_alen (D := x_D G) C.1.1 C.1.2.1 C.2.1 h1 0 6 rfl (ty := .array .int) rfl hv hdg (kk H locs ls hP hS hl)
theorem l_iald (C : Cx G p s m args c cc Ts own nL) {k N i sz : Nat} {w : Nat → Int32} {x : Int32} (hk : k < n) (he : f k = .inl (x_c G 0, N, .inl w)) (hx : x = nI i) (hi : i < N) (hN : N < 1000) (hdg : decode cc pc = .ok (.iaload, 1)) (kk : Lb p l e R s m args below meth c nL cells slots Q (x_A G) (l_PA G d sz n ad f) (pc + 1) lst (.int (w i) :: rest)) : Lb p l e R s m args below meth c nL cells slots Q (x_A G) (l_PA G d sz n ad f) pc lst (.int x :: .ref (ad k) :: rest) := fun H locs ls hP hS hl => by
  subst hx
  have h1 := hP.2.one hk
  rw [he] at h1
  exact va_iald (D := x_D G) (f := w) C.1.1 C.1.2.1 C.2.1 h1 0 0 rfl rfl (x_vp hi (by omega)) hdg (by rw [x_cl hi (by omega)]; exact kk H locs ls hP hS hl)
theorem l_aald (C : Cx G p s m args c cc Ts own nL) {k N i sz a : Nat} {g : Nat → Option Nat} {x : Int32} (hk : k < n) (he : f k = .inl (x_c G 6, N, .inr (.inr (.inr (.inr g))))) (hx : x = nI i) (hi : i < N) (hN : N < 1000) (hg : g i = some a) (hdg : decode cc pc = .ok (.aaload, 1)) (kk : Lb p l e R s m args below meth c nL cells slots Q (x_A G) (l_PA G d sz n ad f) (pc + 1) lst (.ref a :: rest)) : Lb p l e R s m args below meth c nL cells slots Q (x_A G) (l_PA G d sz n ad f) pc lst (.int x :: .ref (ad k) :: rest) := fun H locs ls hP hS hl => by
  subst hx
  have h0 := (hP.2.1 k hk).2
  rw [he] at h0
  have hcl : (nI i).toNatClampNeg = i := nI_clamp (by omega)
  refine W.aald (v := .ref a) (ty := .array .int) C.1.1 C.1.2.1 h0 ((C.2.1.2 6 _ rfl).1 N (fun j => va_rf (g j))) rfl (fun q => by cases q) (by show ¬ (_ < 0 ∨ (arrV _ _ _).slots.size ≤ _); rw [arrV_size]; exact x_vp (n := N) hi (by omega)) (by show (arrV _ _ _).slots[_]? = _; rw [arrV_read _ _ (by rw [hcl]; exact hi), hcl, hg]; rfl) rfl rfl hdg (kk H locs ls hP hS hl)
/-- a call of the object, the arrays beside it -/
theorem l_callV (C : Cx G p s m args c cc Ts own nL) (hblk : ∀ q, x_A G q → q < s.heap.size) {y : MethodName} {bytes : ByteArray} {maxL n9 index lv : Nat} {ret : Option FieldType} {ws : List Cond} {As : List Value} {r : Option Value} {d2 : xd}
    (hM : x_M G l y ws lv 0 0 (.ref (x_b G + 0) :: As) d r d2) (cw : CallW R s args own RX11 index y bytes maxL ret ws (x_rm lv 0 0) 0 0 n9) (hn : As.length = n9) {st : List Value} (hst : st = As.reverse ++ .ref (x_b G + 0) :: rest) (hro : (rest.map fun v => v.category).sum ≤ 8) (hdg : decode cc pc = .ok (.invokevirtual index, 3)) (hf : cells + 0 ≤ R.cells ∧ slots + 0 ≤ R.slots)
    (kk : Lb p l e R s m args below meth c nL cells slots Q (x_A G) (l_PA G d2 s.heap.size n ad f) (pc + 3) lst (r.toList ++ rest)) : Lb p l e R s m args below meth c nL cells slots Q (x_A G) (l_PA G d s.heap.size n ad f) pc lst st := by
  intro H locs ls hP hS hl
  subst hst
  have hr := va_runV (locs := locs) (meth := meth) (below := below) (e := e) (As := As) (rest := rest) (g := F0 m pc ls (As.reverse ++ .ref (x_b G + 0) :: rest)) C.1 hM cw ⟨x_blind G _ d, va_recv (q := (RX11, TX11, 13)) C.2.1 hP.1 rfl (x_get G d x_k0), x_pre C.2 hP.1 hS⟩ rfl hn hl.1 rfl (lv_room hro) hdg hf
  intro T hT X
  obtain ⟨v, st₀, t, T', L, h0, X', hL, e1, e2, ⟨hv, hu, hz, hk⟩, st⟩ := hr T hT X
  cases hv
  rw [h0] at hz hk
  obtain ⟨t2, a1, b1⟩ := kk T'.heap (locs ++ L) ls ⟨by rw [e1]; exact hu, by rw [e1]; exact hP.2.kept (fun k hk9 => hk _ (hP.2.lt hk9) (fun y => absurd (hblk _ y) (by have := (hP.2.1 k hk9).1; omega)))⟩
    ⟨Nat.le_trans hS.1 (by rw [e1]; exact hz), fun q h1 h2 => by rw [e1, hk q (Nat.lt_of_lt_of_le h1 hS.1) h2]; exact hS.2.1 q h1 h2, fun q hq => by
      rcases List.mem_append.mp hq with h | h
      · exact hS.2.2 q h
      · exact hL q h⟩ hl T' rfl X'
  exact ⟨t2, st t2 a1, b1⟩
end LARR
