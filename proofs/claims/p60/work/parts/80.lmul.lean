/-! the floor all objects stand on: classes, constants, texts -/
abbrev xF : Type := va_G × (Nat → ClassId) × (Nat → Nat → Nat)
def w_G (F : xF) (b : Nat) : xG := (b, F.1, F.2.1, F.2.2, fun q => b ≤ q)
def w_B (F : xF) (b : Nat) : xG := (b, F.1, F.2.1, F.2.2, fun q => b ≤ q ∧ q < b + 175)
theorem x_Vn.narrow {ad : Nat → Nat} {A B : Nat → Prop} {U : State} {H : Heap} (h : x_Vn ad A U H) (hA : ∀ q, B q → A q) : x_Vn ad B U H :=
  ⟨fun i hi => ⟨(h.1 i hi).1.narrow hA, fun q h9 => ((h.1 i hi).2 q h9).narrow hA⟩, h.2⟩
theorem x_E.narrow {G G2 : xG} {U : State} {H : Heap} (he : x_e G2 = x_e G) (hA : ∀ q, x_A G2 q → x_A G q) (h : x_E G U H) : x_E G2 U H := by
  obtain ⟨h1, h2, h3, h4, h5, h6, h7, h8, h9, h10, h11, h12, h13, h14, h15, h16, h17, h18, h19, h20, h21⟩ := h
  unfold x_E
  rw [he]
  exact ⟨h1.narrow hA, h2.narrow hA, fun i hi => (h3 i hi).narrow hA, h4.narrow hA, h5.narrow hA, h6.narrow hA, h7.narrow hA, h8.narrow hA, h9.narrow hA, h10.narrow hA, h11.narrow hA, h12, h13, h14, h15, h16, h17, h18, h19, h20, h21.narrow hA⟩
def fl_K (F : xF) (U : State) : Prop := x_K (w_G F U.heap.size) U ∧ n_N (w_G F U.heap.size) U
/-- where a walk may write: all that is new -/
def w_A (s : State) : Nat → Prop := fun q => s.heap.size ≤ q
theorem fl_any {F : xF} {s U : State} {H : Heap} {locs : List Loc} {b : Nat} (h : fl_K F s) (hW : s.WarmedH U.vm) (hS : va_S (w_A s) s.heap H locs) (hU : U.heap = H) (hb : s.heap.size ≤ b) (hb2 : b ≤ U.heap.size) : x_K (w_G F b) U ∧ n_N (w_G F b) U :=
  ⟨⟨h.1.1.moved hW.alike, ⟨hb2, fun k _ => Nat.le_add_right b k⟩, x_E.narrow (G := w_G F s.heap.size) rfl (fun q hq => Nat.le_trans hb hq) (by rw [hU]; exact x_E.at hW hS.2.1 h.1.2.2)⟩, ⟨fun q hq => hq, (n_N.warm hW h.2).2⟩⟩
theorem fl_at {F : xF} {s U : State} {H : Heap} {locs : List Loc} (h : fl_K F s) (hW : s.WarmedH U.vm) (hS : va_S (w_A s) s.heap H locs) (hU : U.heap = H) : fl_K F U := fl_any h hW hS hU (by rw [hU]; exact hS.1) (Nat.le_refl _)
theorem fl_blk {F : xF} {s U : State} {H : Heap} {locs : List Loc} {b : Nat} (h : fl_K F s) (hW : s.WarmedH U.vm) (hS : va_S (w_A s) s.heap H locs) (hU : U.heap = H) (hb : s.heap.size ≤ b) (hb2 : b ≤ U.heap.size) : x_K (w_B F b) U :=
  ⟨h.1.1.moved hW.alike, ⟨hb2, fun k hk => ⟨Nat.le_add_right b k, Nat.add_lt_add_left hk b⟩⟩, x_E.narrow (G := w_G F s.heap.size) rfl (fun q hq => Nat.le_trans hb hq.1) (by rw [hU]; exact x_E.at hW hS.2.1 h.1.2.2)⟩
/-- the objects there are: where each lies and what it holds -/
def m_P (F : xF) (sz : Nat) : List (Nat × xd) → Heap → Prop
  | [], _ => True
  | w :: r, H => (sz ≤ w.1 ∧ va_P F.1 vwCl (x_ws (w_B F w.1) w.2) H ∧ ∀ u ∈ r, u.1 + 175 ≤ w.1 ∨ w.1 + 175 ≤ u.1) ∧ m_P F sz r H
theorem m_P.kept {F : xF} {sz : Nat} {H H1 : Heap} : ∀ {r : List (Nat × xd)}, m_P F sz r H → (∀ u ∈ r, ∀ q, u.1 ≤ q → q < u.1 + 175 → H1[q]? = H[q]?) → m_P F sz r H1
  | [], _, _ => trivial
  | w :: r, h, hq => ⟨⟨h.1.1, l_P_kept (G := w_B F w.1) h.1.2.1 (fun q h1 h2 => hq w List.mem_cons_self q h1 h2), h.1.2.2⟩, m_P.kept h.2 (fun u hu => hq u (List.mem_cons_of_mem _ hu))⟩
theorem m_P.lt {F : xF} {sz : Nat} {H : Heap} : ∀ {r : List (Nat × xd)}, m_P F sz r H → ∀ u ∈ r, sz ≤ u.1 ∧ u.1 + 175 ≤ H.size
  | [], _, u, hu => absurd hu List.not_mem_nil
  | w :: r, h, u, hu => by
    rcases List.mem_cons.mp hu with y | y
    · subst y
      exact ⟨h.1.1, l_P_lt (G := w_B F u.1) h.1.2.1⟩
    · exact m_P.lt h.2 u y
theorem m_P.swap {F : xF} {sz : Nat} {H : Heap} {w1 w2 : Nat × xd} {r : List (Nat × xd)} (h : m_P F sz (w1 :: w2 :: r) H) : m_P F sz (w2 :: w1 :: r) H :=
  ⟨⟨h.2.1.1, h.2.1.2.1, fun u hu => by
    rcases List.mem_cons.mp hu with y | y
    · subst y
      exact (h.1.2.2 w2 List.mem_cons_self).elim (fun y => Or.inr y) (fun y => Or.inl y)
    · exact h.2.1.2.2 u y⟩, ⟨h.1.1, h.1.2.1, fun u hu => h.1.2.2 u (List.mem_cons_of_mem _ hu)⟩, h.2.2⟩
/-- behind a call of the first -/
theorem m_P.next {F : xF} {sz b : Nat} {d d2 : xd} {H H1 : Heap} {r : List (Nat × xd)} (h : m_P F sz ((b, d) :: r) H) (h2 : va_P F.1 vwCl (x_ws (w_B F b) d2) H1) (hq : ∀ q, q < H.size → ¬ (b ≤ q ∧ q < b + 175) → H1[q]? = H[q]?) : m_P F sz ((b, d2) :: r) H1 :=
  ⟨⟨h.1.1, h2, h.1.2.2⟩, h.2.kept (fun u hu q q1 q2 => hq q (by have := (h.2.lt u hu).2; omega) (fun y => by
    have h9 : u.1 + 175 ≤ b ∨ b + 175 ≤ u.1 := h.1.2.2 u hu
    omega))⟩
theorem n_world {G : xG} {H : Heap} (hP : n_P G 175 (n_all G) H) : va_P (x_D G) vwCl (x_ws G x_d0) H := by
  intro k q hk
  simp only [x_ws, List.getElem?_mapIdx, Option.map_eq_some_iff] at hk
  obtain ⟨sh, hs, rfl⟩ := hk
  have hl : k < 175 := by
    have := (List.getElem?_eq_some_iff.mp hs).1
    rwa [x_sh_len] at this
  have h := hP.2 k hl
  rw [n_all_at G hs] at h
  exact h
theorem x_ws_GB (F : xF) (b : Nat) (d : xd) : x_ws (w_G F b) d = x_ws (w_B F b) d := rfl
def Mx (F : xF) (p : Program) (s : State) (m : MethodId) (args : Array Value) (c : Code) (cc : ByteArray) (Ts : List Cond) (own : String) (nL : Nat) : Prop := CallFix p m c cc nL s args Ts own ∧ fl_K F s
section MROWS
variable {F : xF} {p : Program} {l : Launch} {e : Env} {R : Room} {s : State} {m : MethodId} {args : Array Value} {below : List Frame} {meth : Method} {c : Code} {nL cells slots : Nat} {Q : State → Prop} {cc : ByteArray} {Ts : List Cond} {own : String} {pc : Nat} {lst : List (Nat × Value)} {rest : List Value} {d d2 : xd} {b : Nat} {Wo : List (Nat × xd)} {P : Heap → Prop}
theorem m_pre {H : Heap} {locs : List Loc} {av : List Value} (C : Mx F p s m args c cc Ts own nL) (hP : m_P F s.heap.size ((b, d) :: Wo) H) (hS : va_S (w_A s) s.heap H locs) : ∀ U : State, U.heap = H → s.WarmedH U.vm → va_Pc av (x_U (w_B F b) d) av.toArray U := fun U hU hW =>
  ⟨rfl, by rw [hU]; exact hP.1.2.1, fl_blk C.2 hW hS hU hP.1.1 (by rw [hU]; have := l_P_lt (G := w_B F b) hP.1.2.1; have h9 : b + 175 ≤ H.size := this; omega)⟩
theorem m_go {mc ms : Nat} {ls : Array Slot} {st0 : List Value} {H : Heap} {locs : List Loc} {a : Array Value} {r : Option Value} (hr : va_Run p l e R s m args below meth c H locs cells slots mc ms (F0 m pc ls st0) rest (x_Q (w_B F b) r d2 a) (x_A (w_B F b))) (hP : m_P F s.heap.size ((b, d) :: Wo) H) (hS : va_S (w_A s) s.heap H locs) (hl : lv_has ls nL lst)
    (kk : Lb p l e R s m args below meth c nL (cells + mc) (slots + ms) Q (w_A s) (m_P F s.heap.size ((b, d2) :: Wo)) (pc + 3) lst (r.toList ++ rest)) : W p l e R s m args below meth c H locs cells slots Q (F0 m pc ls st0) := by
  intro T hT X
  obtain ⟨v, st₀, t, T', L, h0, X', hL, e1, e2, ⟨hv, hu, hz, hk⟩, st⟩ := hr T hT X
  cases hv
  rw [h0] at hz hk
  obtain ⟨t2, a1, b1⟩ := kk T'.heap (locs ++ L) ls (by rw [e1]; exact hP.next hu (fun q h1 h2 => hk q h1 h2))
    ⟨Nat.le_trans hS.1 (by rw [e1]; exact hz), fun q h1 h2 => by rw [e1, hk q (Nat.lt_of_lt_of_le h1 hS.1) (fun y => h2 (Nat.le_trans hP.1.1 y.1))]; exact hS.2.1 q h1 h2, fun q hq => by
      rcases List.mem_append.mp hq with h | h
      · exact hS.2.2 q h
      · exact Nat.le_trans hP.1.1 (hL q h).1⟩ hl T' rfl X'
  exact ⟨t2, st t2 a1, b1⟩
theorem m_callV (C : Mx F p s m args c cc Ts own nL) {y : MethodName} {bytes : ByteArray} {maxL mc ms n index lv : Nat} {ret : Option FieldType} {ws : List Cond} {As : List Value} {r : Option Value}
    (hM : x_M (w_B F b) l y ws lv mc ms (.ref b :: As) d r d2) (cw : CallW R s args own RX11 index y bytes maxL ret ws (x_rm lv mc ms) mc ms n) (hn : As.length = n) {st : List Value} (hst : st = As.reverse ++ .ref b :: rest) (hro : (rest.map fun v => v.category).sum ≤ 8) (hdg : decode cc pc = .ok (.invokevirtual index, 3)) (hf : cells + mc ≤ R.cells ∧ slots + ms ≤ R.slots)
    (kk : Lb p l e R s m args below meth c nL (cells + mc) (slots + ms) Q (w_A s) (m_P F s.heap.size ((b, d2) :: Wo)) (pc + 3) lst (r.toList ++ rest)) : Lb p l e R s m args below meth c nL cells slots Q (w_A s) (m_P F s.heap.size ((b, d) :: Wo)) pc lst st := by
  intro H locs ls hP hS hl
  subst hst
  exact m_go (va_runV (As := As) (rest := rest) C.1 hM cw ⟨x_blind (w_B F b) _ d, va_recv (q := (RX11, TX11, 13)) C.2.1.1 hP.1.2.1 rfl (x_get (w_B F b) d x_k0), m_pre C hP hS⟩ rfl hn hl.1 rfl (lv_room hro) hdg hf) hP hS hl kk
theorem m_callS (C : Mx F p s m args c cc Ts own nL) {y : MethodName} {bytes : ByteArray} {maxL mc ms n index lv : Nat} {ret : Option FieldType} {ws : List Cond} {As : List Value} {r : Option Value}
    (hM : x_M (w_B F b) l y ws lv mc ms As d r d2) (cw : CallB R s args own index y bytes maxL ret ws (x_rm lv mc ms) mc ms n ∧ (Cond.static y).before args s = true) (hn : As.length = n) {st : List Value} (hst : st = As.reverse ++ rest) (hro : (rest.map fun v => v.category).sum ≤ 8) (hdg : decode cc pc = .ok (.invokestatic index, 3)) (hf : cells + mc ≤ R.cells ∧ slots + ms ≤ R.slots)
    (kk : Lb p l e R s m args below meth c nL (cells + mc) (slots + ms) Q (w_A s) (m_P F s.heap.size ((b, d2) :: Wo)) (pc + 3) lst (r.toList ++ rest)) : Lb p l e R s m args below meth c nL cells slots Q (w_A s) (m_P F s.heap.size ((b, d) :: Wo)) pc lst st := by
  intro H locs ls hP hS hl
  subst hst
  exact m_go (va_runS (As := As) (rest := rest) C.1 hM cw ⟨x_blind (w_B F b) _ d, m_pre C hP hS⟩ rfl hn hl.1 rfl (lv_room hro) hdg hf) hP hS hl kk
theorem m_callH (C : Mx F p s m args c cc Ts own nL) {y : MethodName} {bytes : ByteArray} {maxL mc ms n index lv : Nat} {ret : Option FieldType} {hh : List (Nat × Nat × Nat × Nat)} {ws : List Cond} {As : List Value} {r : Option Value}
    (hM : x_M (w_B F b) l y ws lv mc ms As d r d2) (cw : vx_CSW R s args own index y bytes maxL ret hh ws (x_rm lv mc ms) mc ms n) (hn : As.length = n) {st : List Value} (hst : st = As.reverse ++ rest) (hro : (rest.map fun v => v.category).sum ≤ 8) (hdg : decode cc pc = .ok (.invokestatic index, 3)) (hf : cells + mc ≤ R.cells ∧ slots + ms ≤ R.slots)
    (kk : Lb p l e R s m args below meth c nL (cells + mc) (slots + ms) Q (w_A s) (m_P F s.heap.size ((b, d2) :: Wo)) (pc + 3) lst (r.toList ++ rest)) : Lb p l e R s m args below meth c nL cells slots Q (w_A s) (m_P F s.heap.size ((b, d) :: Wo)) pc lst st := by
  intro H locs ls hP hS hl
  subst hst
  exact m_go (vx_runSW (As := As) (rest := rest) C.1 hM cw ⟨x_blind (w_B F b) _ d, m_pre C hP hS⟩ rfl hn hl.1 rfl (lv_room hro) hdg hf) hP hS hl kk
theorem m_swap {w1 w2 : Nat × xd} {st : List Value} (k : Lb p l e R s m args below meth c nL cells slots Q (w_A s) (m_P F s.heap.size (w2 :: w1 :: Wo)) pc lst st) : Lb p l e R s m args below meth c nL cells slots Q (w_A s) (m_P F s.heap.size (w1 :: w2 :: Wo)) pc lst st := l_P (fun _ h => h.swap) k
theorem m_drop {w1 : Nat × xd} {st : List Value} (k : Lb p l e R s m args below meth c nL cells slots Q (w_A s) (m_P F s.heap.size Wo) pc lst st) : Lb p l e R s m args below meth c nL cells slots Q (w_A s) (m_P F s.heap.size (w1 :: Wo)) pc lst st := l_P (fun _ h => h.2) k
theorem l_ldc (C : CallFix p m c cc nL s args Ts own) {tx : String} {index a : Nat} {A : Nat → Prop} (hZ : vk_R own index tx a s) (hdg : decode cc pc = .ok (.ldc index, 2)) (k : Lb p l e R s m args below meth c nL cells slots Q A P (pc + 2) lst (.ref a :: rest)) : Lb p l e R s m args below meth c nL cells slots Q A P pc lst rest := fun H locs ls hP hS hl => va_ldcS C.1 C.2.1 C.2.2.2.1 hZ hdg (k H locs ls hP hS hl)
theorem l_mmax (C : CallFix p m c cc nL s args Ts own) {index : Nat} {x y : Int32} {A : Nat → Prop} (h1 : Cond.methodLink own index Lib.Math.max.name ∈ Ts) (h2 : Cond.static Lib.Math.max.name ∈ Ts) (h3 : Cond.initialized "java/lang/Math" ∈ Ts) (h4 : Cond.code Lib.Math.max.name Lib.Math.max.code 2 (some .int) ∈ Ts) (hf : 1 ≤ R.frames) (hlo : (rest.map fun v => v.category).sum + 13 ≤ R.locals) (hc : cells ≤ R.cells) (hs : slots ≤ R.slots) (hdg : decode cc pc = .ok (.invokestatic index, 3)) (kk : Lb p l e R s m args below meth c nL cells slots Q A P (pc + 3) lst (.int (if x < y then y else x) :: rest)) : Lb p l e R s m args below meth c nL cells slots Q A P pc lst (.int y :: .int x :: rest) :=
  fun H locs ls hP hS hl => va_mmax C.1 C.2.1 (by rw [C.2.2.1]; exact hl.1.symm) C.2.2.2.1 (C.2.2.2.2 _ h1) (C.2.2.2.2 _ h2) (C.2.2.2.2 _ h3) (C.2.2.2.2 _ h4) hf hlo hc hs hdg (kk H locs ls hP hS hl)
/-- a new object -/
theorem m_new (C : Mx F p s m args c cc Ts own nL) {index i2 : Nat} (hin : ∀ w ∈ u_ws RX11 TX11 13, w ∈ Ts) (hcl : Cond.classLink own index RX11 ∈ Ts) (hinst : Cond.instantiable RX11 13 ∈ Ts) (hini : Cond.initialized RX11 ∈ Ts) (cw : CallB R s args own i2 yX11_init cX11_init 1 none wsX11_init (x_rm 4 174 1303) 174 1303 0 ∧ yX11_init.name = "<init>" ∧ (Cond.instanceMethod yX11_init).before args s = true) (hro : (rest.map fun v => v.category).sum ≤ 7) (hcells : cells + 175 ≤ R.cells) (hslots : slots + 1316 ≤ R.slots)
    (hd0 : decode cc pc = .ok (.new index, 3)) (hd1 : decode cc (pc + 3) = .ok (.dup, 1)) (hd2 : decode cc (pc + 3 + 1) = .ok (.invokespecial i2, 3))
    (kk : ∀ a : Nat, Lb p l e R s m args below meth c nL (cells + 1 + 174) (slots + 13 + 1303) Q (w_A s) (m_P F s.heap.size ((a, x_d0) :: Wo)) (pc + 7) lst (.ref a :: rest)) : Lb p l e R s m args below meth c nL cells slots Q (w_A s) (m_P F s.heap.size Wo) pc lst rest := by
  intro H locs ls hP hS hl
  have hts := C.1.2.2.2.2
  have hKn := C.2.1.1.1 11 _ rfl
  refine W.newcK C.1.1 C.1.2.1 C.1.2.2.2.1 (hts _ hcl) (hts _ hinst) (hts _ hini) rfl hd0 (by omega) (by omega) hKn.2.1 rfl fun H1 kC hkC e1 z1 o1 => ?_
  have e0 : va_at F.1 vwCl (H.size, .inr (11, [.null, .null, .null, .int 0, .null, .null, .null, .null, .null, .null, .null, .int 0, .int 0])) H1 := ⟨_, rfl, (u_born tyX11 hts hin hKn hkC e1 tyX11_ok).to (fun j hj => by rcases (show j = 0 ∨ j = 1 ∨ j = 2 ∨ j = 3 ∨ j = 4 ∨ j = 5 ∨ j = 6 ∨ j = 7 ∨ j = 8 ∨ j = 9 ∨ j = 10 ∨ j = 11 ∨ j = 12 by omega) with rfl | rfl | rfl | rfl | rfl | rfl | rfl | rfl | rfl | rfl | rfl | rfl | rfl <;> rfl)⟩
  have hN1 : n_P (w_G F H.size) 1 (fun _ => .inr (11, [.null, .null, .null, .int 0, .null, .null, .null, .null, .null, .null, .null, .int 0, .int 0])) H1 := ⟨z1, fun k hk => by
    obtain rfl : k = 0 := by omega
    exact e0⟩
  have hS1 : va_S (w_A s) s.heap H1 locs := ⟨by have := hS.1; omega, fun q h1 h2 => (o1 q (by have := hS.1; omega)).trans (hS.2.1 q h1 h2), hS.2.2⟩
  refine lv_dup C.1.1 C.1.2.1 hd1 rfl ?_
  have hr := va_runI (locs := locs) (meth := meth) (below := below) (e := e) (cells := cells + 1) (slots := slots + 13) (As := []) (rest := .ref H.size :: rest) (g := F0 m (pc + 3 + 1) ls (.ref H.size :: .ref H.size :: rest)) C.1 (c_X11_init l (w_G F H.size) _ rfl) cw ⟨n_blind _ _ _ _, fun U hU hW => ⟨rfl, by rw [hU]; exact hN1, fl_any C.2 hW hS1 hU hS.1 (by rw [hU, z1]; omega)⟩⟩ rfl rfl hl.1 rfl (lv_room (by simp only [List.map_cons, List.sum_cons]; show 1 + _ ≤ 8; omega)) hd2 ⟨by omega, by omega⟩
  intro T hT X
  obtain ⟨v, st₀, t, T', L, h0, X', hL, e1, e2, ⟨hv, hu, hz, hk⟩, st⟩ := hr T hT X
  cases hv
  rw [h0] at hz hk
  have hkq : ∀ q, q < H.size → T'.heap[q]? = H[q]? := fun q hq => by rw [e1, hk q (by omega) (fun y => by have h9 : H.size ≤ q := y; omega)]; exact o1 q hq
  obtain ⟨t2, a1, b1⟩ := kk H.size T'.heap (locs ++ L) ls ⟨⟨hS.1, by rw [e1]; exact n_world (G := w_G F H.size) hu, fun u hu2 => Or.inl (hP.lt u hu2).2⟩, hP.kept (fun u hu2 q q1 q2 => hkq q (by have := (hP.lt u hu2).2; omega))⟩
    ⟨Nat.le_trans hS1.1 (by rw [e1]; exact hz), fun q h1 h2 => (hkq q (by have := hS.1; omega)).trans (hS.2.1 q h1 h2), fun q hq => by
      rcases List.mem_append.mp hq with h | h
      · exact hS.2.2 q h
      · exact Nat.le_trans hS.1 (hL q h)⟩ hl T' rfl X'
  exact ⟨t2, st t2 a1, b1⟩
end MROWS
/-! a number of the script -/
def t_at (L : Nat) (xs : Nat → Int32) (k : Nat) : Int32 := if k < L then xs k else 0
def t_U (b L : Nat) (xs : Nat → Int32) (U : State) : Prop := va_X b L xs U U.heap
def t_Q (v : Int32) : Array Value → State → Outcome → State → Prop := fun _ st oc t => oc = .returned (some (.int v)) ∧ va_F (fun _ => False) st t
theorem t_blind (av : List Value) (b L : Nat) (xs : Nat → Int32) : FrameBlind (va_Pc av (t_U b L xs)) := by
  intro a U g mk q
  exact ⟨q.1, va_X.moved (u := U) (U := U.calling g mk a) (Vm.Alike.refl U.vm) q.2⟩
theorem va_X.lt {b L : Nat} {xs : Nat → Int32} {U : State} {H : Heap} (h : va_X b L xs U H) : b < H.size := by
  obtain ⟨scr, h1, -⟩ := h
  exact (Array.getElem?_eq_some_iff.mp h1).1
theorem c_L_at (l : Launch) (b L k : Nat) (xs : Nat → Int32) (hL : L < 1000) (hk : k < 1000) : Met l yL_at wsL_at (x_rm 1 0 0) (va_Pc [.ref b, .int (nI k)] (t_U b L xs)) (t_Q (t_at L xs k)) 0 0 (fun _ => False) := by
  refine Met.ofW (cc := cL_at) (maxL := 2) (ret := some .int) (by decide) rfl ?_
  intro p e s m args below meth c s₁ B9 hml hv
  obtain ⟨rfl, hX⟩ := hv
  have hX : va_X b L xs s s.heap := hX
  have hbl := hX.lt
  have hl0 := lv_entry [Value.ref b, Value.int (nI k)] (n := 2) (Nat.le_of_ble_eq_true rfl)
  rw [lg_entry_eq]
  have C : CallFix p m c cL_at 2 s _ wsL_at RL := ⟨B9.exec, B9.bytes, hml, findClass_of_methodNamed B9.named, atoms_spec (ws := wsL_at) B9.pre⟩
  suffices hgo : Lb p l e (x_rm 1 0 0) s m #[Value.ref b, Value.int (nI k)] below meth c 2 0 0 (MQ below (t_Q (t_at L xs k)) #[Value.ref b, Value.int (nI k)] s 0 0 (fun _ => False)) (fun _ => False) (fun _ => True) 0 [(0, .ref b), (1, .int (nI k))] [] from hgo s.heap [] _ trivial va_S.rf hl0
  have hend : ∀ v : Int32, v = t_at L xs k → Lb p l e (x_rm 1 0 0) s m #[Value.ref b, Value.int (nI k)] below meth c 2 0 0 (MQ below (t_Q (t_at L xs k)) #[Value.ref b, Value.int (nI k)] s 0 0 (fun _ => False)) (fun _ => False) (fun _ => True) 13 [(0, .ref b), (1, .int (nI k))] [.int v] := fun v hv H locs ls hP hS hl => by
    subst hv
    exact W.iret C.1 C.2.1 B9.returns (fun t ht _ => ⟨rfl, hS.F ht⟩) hS.2.2 dL_at_13 B9.notSynchronized
  refine l_iload_n C dL_at_0 1 rfl ?_
  refine l_aload_n C dL_at_1 0 rfl ?_
  intro H locs ls hP hS hl
  refine va_slen C.1 C.2.1 hX hbl (fun y => y) hS dL_at_2 ?_
  refine (?_ : Lb p l e (x_rm 1 0 0) s m #[Value.ref b, Value.int (nI k)] below meth c 2 0 0 (MQ below (t_Q (t_at L xs k)) #[Value.ref b, Value.int (nI k)] s 0 0 (fun _ => False)) (fun _ => False) (fun _ => True) 3 [(0, .ref b), (1, .int (nI k))] [.int (nI L), .int (nI k)]) H locs ls hP hS hl
  refine l_icmp_ge C dL_at_3 (tgt := 12) (by decide) (fun h3 => ?_) (fun h3 => ?_)
  · have hge : ¬ k < L := fun y => by
      have h9 := (nI_leI (by omega) (by omega)).mp h3
      omega
    refine l_iconst C dL_at_12 (v := 0) (by decide) ?_
    exact hend 0 (if_neg hge).symm
  · have hlt : k < L := Nat.lt_of_not_le fun y => h3 (nI_le y (by omega))
    refine l_aload_n C dL_at_6 0 rfl ?_
    refine l_iload_n C dL_at_7 1 rfl ?_
    intro H locs ls hP hS hl
    refine va_sld C.1 C.2.1 hX hbl (fun y => y) hS (x_vp hlt (by omega)) dL_at_8 ?_
    rw [x_cl hlt (by omega)]
    refine (?_ : Lb p l e (x_rm 1 0 0) s m #[Value.ref b, Value.int (nI k)] below meth c 2 0 0 (MQ below (t_Q (t_at L xs k)) #[Value.ref b, Value.int (nI k)] s 0 0 (fun _ => False)) (fun _ => False) (fun _ => True) 9 [(0, .ref b), (1, .int (nI k))] [.int (xs k)]) H locs ls hP hS hl
    refine l_goto C dL_at_9 (tgt := 13) (by decide) ?_
    exact hend _ (if_pos hlt).symm
section MROWS2
variable {F : xF} {p : Program} {l : Launch} {e : Env} {R : Room} {s : State} {m : MethodId} {args : Array Value} {below : List Frame} {meth : Method} {c : Code} {nL cells slots : Nat} {Q : State → Prop} {cc : ByteArray} {Ts : List Cond} {own : String} {pc : Nat} {lst : List (Nat × Value)} {rest : List Value} {Wo : List (Nat × xd)}
theorem m_at (C : Mx F p s m args c cc Ts own nL) {b L k index : Nat} {xs : Nat → Int32} {x : Int32} (hX : va_X b L xs s s.heap) (hL : L < 1000) (hk : k < 1000) (hx : x = nI k) (cw : CallB R s args own index yL_at cL_at 2 (some .int) wsL_at (x_rm 1 0 0) 0 0 2 ∧ (Cond.static yL_at).before args s = true) (hro : (rest.map fun v => v.category).sum ≤ 8) (hdg : decode cc pc = .ok (.invokestatic index, 3)) (hf : cells + 0 ≤ R.cells ∧ slots + 0 ≤ R.slots)
    (kk : Lb p l e R s m args below meth c nL cells slots Q (w_A s) (m_P F s.heap.size Wo) (pc + 3) lst (.int (t_at L xs k) :: rest)) : Lb p l e R s m args below meth c nL cells slots Q (w_A s) (m_P F s.heap.size Wo) pc lst (.int x :: .ref b :: rest) := by
  intro H locs ls hP hS hl
  subst hx
  have hb := hX.lt
  have hr := va_runS (locs := locs) (meth := meth) (below := below) (e := e) (cells := cells) (slots := slots) (As := [.ref b, .int (nI k)]) (rest := rest) (g := F0 m pc ls (.int (nI k) :: .ref b :: rest)) C.1 (c_L_at l b L k xs hL hk) cw ⟨t_blind _ _ _ _, fun U hU hW => ⟨rfl, (by
    have h9 : va_X b L xs U H := (hX.kept (hS.2.1 b hb (fun y => by have h9 : s.heap.size ≤ b := y; omega))).moved hW.alike
    show va_X b L xs U U.heap
    rw [hU]
    exact h9)⟩⟩ rfl rfl hl.1 rfl (lv_room hro) hdg hf
  intro T hT X
  obtain ⟨v, st₀, t, T', L9, h0, X', hL9, e1, e2, ⟨hv, hz, hk9⟩, st⟩ := hr T hT X
  cases hv
  rw [h0] at hz hk9
  have hq : ∀ q, q < H.size → T'.heap[q]? = H[q]? := fun q h1 => by rw [e1]; exact hk9 q h1 (fun y => y)
  obtain ⟨t2, a1, b1⟩ := kk T'.heap (locs ++ L9) ls (hP.kept (fun u hu q q1 q2 => hq q (by have := (hP.lt u hu).2; omega)))
    ⟨Nat.le_trans hS.1 (by rw [e1]; exact hz), fun q h1 h2 => (hq q (by have := hS.1; omega)).trans (hS.2.1 q h1 h2), fun q hq => by
      rcases List.mem_append.mp hq with h | h
      · exact hS.2.2 q h
      · exact (hL9 q h).elim⟩ hl T' rfl X'
  exact ⟨t2, st t2 a1, b1⟩
end MROWS2
