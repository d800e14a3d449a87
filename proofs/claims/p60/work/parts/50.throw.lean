section XTHROWS
variable {G : xG} {p : Program} {l : Launch} {e : Env} {R : Room} {s : State} {m : MethodId} {args : Array Value} {below : List Frame} {meth : Method} {c : Code} {nL cells slots : Nat} {Q : State → Prop} {cc : ByteArray} {Ts : List Cond} {own : String} {pc : Nat} {lst lst2 : List (Nat × Value)} {rest : List Value} {d : xd}
abbrev x_RE : List String := ["java/lang/RuntimeException", "java/lang/Exception"]
def x_bad (cls : String) : List Cond := [.declares (Bundle.initS "java/lang/RuntimeException"), .declares (Bundle.initS "java/lang/Exception"), .declares (Bundle.initS Bundle.tN), .castable cls cls]
theorem x_bad_ok (C : Cx G p s m args c cc Ts own nL) {cls : String} (h : cls ∈ x_cs) : ∀ w ∈ x_bad cls, w.before args s = true := by
  obtain ⟨-, -, -, h1, h2, h3, h4, h5, h6, h7, h8, h9, h10, h11, h12, h13, h14, h15, h16, h17, h18, h19, h20, h21⟩ := C
  exact vx_c (va_Nw.use rfl (h19 _ (by decide))) (vx_c (va_Nw.use rfl (h19 _ (by decide))) (vx_c (va_Nw.use rfl (h19 _ (by decide))) (vx_c (va_Nw.use rfl (h20 _ h)) vx_n)))
theorem x_msg_at (C : Cx G p s m args c cc Ts own nL) {is : Nat} {text : String} (h : ("LampCooperative", is, text) ∈ x_msgs) (ho : own = "LampCooperative") : ∃ a, vk_R own is text a s := by
  subst ho
  exact C.2.2.2.2.2.2.2.2.2.2.2.2.2.2.2.2.2.2.1 _ h
theorem x_Uat (C : Cx G p s m args c cc Ts own nL) : vx_Zq Bundle.tN "UNASSIGNED_STACK" Bundle.steD (x_A G) s s.heap := C.2.2.2.2.2.2.2.2.2.2.2.1
theorem x_Nat (C : Cx G p s m args c cc Ts own nL) : vx_Zq Bundle.tN "SUPPRESSED_SENTINEL" Bundle.listD (x_A G) s s.heap := C.2.2.2.2.2.2.2.2.2.2.2.2.1
theorem x_hx {H : Heap} {locs : List Loc} {E : String} {d2 : xd} (hd : d = d2) (hP : va_P (x_D G) vwCl (x_ws G d) H) (hS : va_S (x_A G) s.heap H locs) : ∀ t : State, s.vm.Alike t.vm → H.size ≤ t.heap.size → (∀ q : Nat, q < H.size → t.heap[q]? = H[q]?) → x_XC G E d2 E s t := fun t _ hz hq => by
  subst hd
  exact ⟨rfl, hP.kept (fun k q hk => hq q.1 (vx_lt hP hk)), Nat.le_trans hS.1 hz, fun q h1 h2 => by rw [hq q (Nat.lt_of_lt_of_le h1 hS.1)]; exact hS.2.1 q h1 h2⟩
theorem a_throw (C : Cx G p s m args c cc Ts own nL) (hT : ∀ x ∈ c.exceptionTable.toList, False) (hlocks : meth.locks = false) (hfl : l.stackTraces = false) {cls text : String} {ik is ic : Nat} {d2 : xd} (hmsg : ("LampCooperative", is, text) ∈ x_msgs) (ho : own = "LampCooperative") (hk : Cond.classLink own ik cls ∈ Ts) (hini : Cond.initialized cls ∈ Ts) (hat : ∀ w ∈ (vx_atS own ic cls x_RE).filter goodWord, w ∈ Ts) (d0 : decode cc pc = .ok (.new ik, 3)) (d3 : decode cc (pc + 3) = .ok (.dup, 1)) (d4 : decode cc (pc + 4) = .ok (.ldc_w is, 3)) (d7 : decode cc (pc + 7) = .ok (.invokespecial ic, 3)) (d10 : decode cc (pc + 10) = .ok (.athrow, 1))
    (hRf : 5 < R.frames) (hRl : (rest.map fun v => v.category).sum + 82 ≤ R.locals) (hRc : cells + 1 ≤ R.cells ∧ slots + 6 ≤ R.slots) {mc2 ms2 : Nat} (hm : cells + 1 ≤ mc2 ∧ slots + 6 ≤ ms2) (hd : d = d2) (hcls : Bundle.fit cls = true := by decide +kernel) (hcs : cls ∈ x_cs := by decide) (hng : ∀ w ∈ (vx_atS own ic cls x_RE).filter (fun w => !goodWord w), w ∈ x_bad cls := by decide +kernel) (hgood : ∀ w ∈ Cond.classLink own ik cls :: Cond.initialized cls :: vx_atS own ic cls x_RE, vx_ot w = true := by decide +kernel) :
    Ab G p l e R s m args below meth c nL cells slots (vx_MQ below (fun _ _ _ _ => False) (x_XC G cls d2) args s mc2 ms2 (x_A G)) pc lst rest d := by
  intro H locs ls hP hS hl
  obtain ⟨sa, hsa⟩ := x_msg_at C hmsg ho
  exact vx_throwSW C.1.1 C.1.2.1 hfl C.1.2.2.2.1 hcls (names := x_RE) (by decide +kernel) (C.1.2.2.2.2 _ hk) (C.1.2.2.2.2 _ hini) hsa (vx_hat (B := x_bad cls) (fun w hw => C.1.2.2.2.2 w (hat w hw)) hng (x_bad_ok C hcs)) hgood (x_Uat C) (x_Nat C) hS (by rw [C.1.2.2.1]; exact hl.1) d0 d3 d4 d7 d10
    (fun x hx => (hT x hx).elim) hRf hRl hRc.1 hRc.2 hlocks (x_hx hd hP hS) hS.2.2 hm.1 hm.2
theorem a_callVX (C : Cx G p s m args c cc Ts own nL) (hT : ∀ x ∈ c.exceptionTable.toList, False) (hlocks : meth.locks = false) {y : MethodName} {Cn : String} {bytes : ByteArray} {maxL n index lv k ci : Nat} {ret : Option FieldType} {ws : List Cond} {As : List Value} {E : String} {d2 d3 : xd} {fl : List (Option Nat)} {q : vw_C} {mc2 ms2 : Nat}
    (hM : x_X G l y ws lv (.ref (x_b G + k) :: As) d E d2) (cw : CallW R s args own Cn index y bytes maxL ret ws (x_rm lv 1 6) 1 6 n) (hk : x_sh[k]? = some (.inl (ci, fl))) (hc : vwCl[ci]? = some q) (hq : q.1 = Cn) (hn : As.length = n) {st : List Value} (hst : st = As.reverse ++ .ref (x_b G + k) :: rest) (hro : (rest.map fun v => v.category).sum ≤ 8) (hdg : decode cc pc = .ok (.invokevirtual index, 3)) (hf : cells + 1 ≤ R.cells ∧ slots + 6 ≤ R.slots) (h1 : cells + 1 ≤ mc2) (h2 : slots + 6 ≤ ms2) (hd : d2 = d3) :
    Ab G p l e R s m args below meth c nL cells slots (vx_MQ below (fun _ _ _ _ => False) (x_XC G E d3) args s mc2 ms2 (x_A G)) pc lst st d := by
  intro H locs ls hP hS hl
  subst hst
  subst hq
  subst hd
  exact x_goX (a := #[]) (vx_runV (As := As) (rest := rest) C.1 hM cw ⟨x_blind G _ d, va_recv C.2.1 hP hc (x_get G d hk), x_pre C.2 hP hS⟩ rfl hn hl.1 rfl (lv_room hro) hdg hf) hS hT hlocks h1 h2
theorem a_callSX (C : Cx G p s m args c cc Ts own nL) (hT : ∀ x ∈ c.exceptionTable.toList, False) (hlocks : meth.locks = false) {y : MethodName} {bytes : ByteArray} {maxL n index lv : Nat} {ret : Option FieldType} {ws : List Cond} {As : List Value} {E : String} {d2 d3 : xd} {mc2 ms2 : Nat}
    (hM : x_X G l y ws lv As d E d2) (cw : CallB R s args own index y bytes maxL ret ws (x_rm lv 1 6) 1 6 n ∧ (Cond.static y).before args s = true) (hn : As.length = n) {st : List Value} (hst : st = As.reverse ++ rest) (hro : (rest.map fun v => v.category).sum ≤ 8) (hdg : decode cc pc = .ok (.invokestatic index, 3)) (hf : cells + 1 ≤ R.cells ∧ slots + 6 ≤ R.slots) (h1 : cells + 1 ≤ mc2) (h2 : slots + 6 ≤ ms2) (hd : d2 = d3) :
    Ab G p l e R s m args below meth c nL cells slots (vx_MQ below (fun _ _ _ _ => False) (x_XC G E d3) args s mc2 ms2 (x_A G)) pc lst st d := by
  intro H locs ls hP hS hl
  subst hst
  subst hd
  exact x_goX (a := #[]) (vx_runS (As := As) (rest := rest) C.1 hM cw ⟨x_blind G _ d, x_pre C.2 hP hS⟩ rfl hn hl.1 rfl (lv_room hro) hdg hf) hS hT hlocks h1 h2
end XTHROWS

