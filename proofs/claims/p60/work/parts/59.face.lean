section XDBL
variable {G : xG} {p : Program} {l : Launch} {e : Env} {R : Room} {s : State} {m : MethodId} {args : Array Value} {below : List Frame} {meth : Method} {c : Code} {nL cells slots : Nat} {Q : State → Prop} {cc : ByteArray} {Ts : List Cond} {own : String} {pc : Nat} {lst lst2 : List (Nat × Value)} {rest : List Value} {d : xd}
theorem a_i2d (C : Cx G p s m args c cc Ts own nL) {x : Int32} (hdg : decode cc pc = .ok (.i2d, 1)) (k : Ab G p l e R s m args below meth c nL cells slots Q (pc + 1) lst (.double (FP.i2d x) :: rest) d) : Ab G p l e R s m args below meth c nL cells slots Q pc lst (.int x :: rest) d := fun H locs ls hP hS hl => lv_i2d C.1.1 C.1.2.1 hdg (k H locs ls hP hS hl)
theorem a_ddiv (C : Cx G p s m args c cc Ts own nL) {x y : UInt64} (hne : vf_n64 (FP.ddiv x y)) (hdg : decode cc pc = .ok (.ddiv, 1)) (k : Ab G p l e R s m args below meth c nL cells slots Q (pc + 1) lst (.double (FP.ddiv x y) :: rest) d) : Ab G p l e R s m args below meth c nL cells slots Q pc lst (.double y :: .double x :: rest) d := fun H locs ls hP hS hl => lv_ddiv C.1.1 C.1.2.1 hdg hne (k H locs ls hP hS hl)
theorem a_dret (C : Cx G p s m args c cc Ts own nL) (hlocks : meth.locks = false) (hr : meth.sig.returnType = some .double) {v v2 : UInt64} {d2 : xd} (hdg : decode cc pc = .ok (.dreturn, 1)) (hv : v = v2) (hd : d = d2) : Ab G p l e R s m args below meth c nL cells slots (MQ below (x_Q G (some (.double v2)) d2) args s cells slots (x_A G)) pc lst [.double v] d := fun H locs ls hP hS hl => by
  subst hv; subst hd
  exact W.dret C.1.1 C.1.2.1 hr (x_end hP hS) hS.2.2 hdg hlocks
theorem a_callRU (C : Cx G p s m args c cc Ts own nL) {x y : MethodName} {Cn owner : String} {bytes : ByteArray} {maxL mc ms n index lv b : Nat} {ret : Option FieldType} {ws : List Cond} {As : List Value} {r : Option Value} {d2 : xd}
    (hM : x_M G l y ws lv mc ms (.ref b :: As) d r d2) (cw : va_CU R s args own Cn owner index x y bytes maxL ret ws (x_rm lv mc ms) mc ms n) (hrec : ∀ (H : Heap) (locs : List Loc), va_S (x_A G) s.heap H locs → ∃ cell : Cell, H[b]? = some cell ∧ cell.vm.isStatics = false ∧ s.vm.findClass Cn = some cell.cls) (hn : As.length = n) {st : List Value} (hst : st = As.reverse ++ .ref b :: rest) (hro : (rest.map fun v => v.category).sum ≤ 8) (hdg : decode cc pc = .ok (.invokevirtual index, 3)) (hf : cells + mc ≤ R.cells ∧ slots + ms ≤ R.slots)
    (kk : Ab G p l e R s m args below meth c nL (cells + mc) (slots + ms) Q (pc + 3) lst (r.toList ++ rest) d2) : Ab G p l e R s m args below meth c nL cells slots Q pc lst st d := by
  intro H locs ls hP hS hl
  subst hst
  exact x_go (free := x_A G) (va_runU (As := As) (rest := rest) C.1 hM cw ⟨x_blind G _ d, hrec H locs hS, x_pre C.2 hP hS⟩ rfl hn hl.1 rfl (lv_room hro) hdg hf) hS hl kk
end XDBL
/-- the mean of a of b -/
def x_mn (a b : Nat) : UInt64 := FP.ddiv (FP.i2d (nI a)) (FP.i2d (nI b))
theorem x_mn_n0 : ∀ b, b < 9 → ∀ a, a < 481 → 1 ≤ b → x_mn a b &&& 0x7fffffffffffffff ≤ 0x7ff0000000000000 := by decide +kernel
theorem x_mn_n {a b : Nat} (hb : b < 9) (h1 : 1 ≤ b) (ha : a < 481) : vf_n64 (x_mn a b) := x_mn_n0 b hb a ha h1
set_option maxHeartbeats 1000000 in
set_option maxRecDepth 100000 in
theorem c_F_type_2 (l : Launch) (hfl : l.stackTraces = false) (G : xG) (d : xd) (a : Nat) (ha : a < 65536) (hx : ¬ (32 ≤ nI a ∧ nI a ≤ 126)) : x_X G l yX11_type wsX11_type 3 [.ref (x_b G + 0), .int (nI a)] d "java/lang/IllegalArgumentException" d := by
  refine x_startX (cc := cX11_type) (maxL := 2) (ret := (some .int)) (own := RX11) (by decide) rfl rfl (Nat.le_of_ble_eq_true rfl) (lst := [(0, .ref (x_b G + 0)), (1, .int (nI a))]) rfl ?_
  intro p e s m args below meth c C hr hlocks
  refine a_iload_n C dX11_type_0 1 rfl ?_
  refine a_bipush C dX11_type_1 (v := 32) (by decide) ?_
  refine a_bipush C dX11_type_3 (v := 126) (by decide) ?_
  refine a_callS C (As := [.int (nI a), .int 32, .int 126]) (rest := []) (c_within_f l G d (nI a) 32 126 hx) (va_cwS 3 C.1.2.2.2.2 gX11_type_X11_within rfl rfl rfl (by decide +kernel) ⟨Nat.le_of_ble_eq_true rfl, Nat.le_of_ble_eq_true rfl⟩) rfl rfl (Nat.le_of_ble_eq_true rfl) dX11_type_5 ⟨Nat.le_of_ble_eq_true rfl, Nat.le_of_ble_eq_true rfl⟩ ?_
  refine a_if_ne C dX11_type_8 (tgt := 22) (by decide) (fun h => absurd h (by decide)) (fun _ => ?_)
  exact a_throw C hr hlocks hfl (is := 325) (cls := "java/lang/IllegalArgumentException") (ic := 266) (ik := 262) (text := "the character is not from 32 to 126") (by decide) rfl (by decide +kernel) (by decide +kernel) (fun w hw => List.mem_cons_of_mem _ (List.mem_append_left _ (List.mem_append_left _ (List.mem_append_right _ hw)))) dX11_type_11 dX11_type_14 dX11_type_15 dX11_type_18 dX11_type_21 (Nat.le_of_ble_eq_true rfl) (Nat.le_of_ble_eq_true rfl) (by decide) (by decide) (rfl)

set_option maxHeartbeats 1000000 in
set_option maxRecDepth 100000 in
theorem c_F_type_3 (l : Launch) (hfl : l.stackTraces = false) (G : xG) (d : xd) (a : Nat) (ha : a < 65536) (hx : 32 ≤ nI a ∧ nI a ≤ 126) (hk : d 168 1 = 60) : x_X G l yX11_type wsX11_type 3 [.ref (x_b G + 0), .int (nI a)] d "java/lang/IllegalStateException" d := by
  have iX11 : ∀ w ∈ u_ws RX11 TX11 13, w ∈ wsX11_type := by decide +kernel
  refine x_startX (cc := cX11_type) (maxL := 2) (ret := (some .int)) (own := RX11) (by decide) rfl rfl (Nat.le_of_ble_eq_true rfl) (lst := [(0, .ref (x_b G + 0)), (1, .int (nI a))]) rfl ?_
  intro p e s m args below meth c C hr hlocks
  refine a_iload_n C dX11_type_0 1 rfl ?_
  refine a_bipush C dX11_type_1 (v := 32) (by decide) ?_
  refine a_bipush C dX11_type_3 (v := 126) (by decide) ?_
  refine a_callS C (As := [.int (nI a), .int 32, .int 126]) (rest := []) (c_within_t l G d (nI a) 32 126 hx) (va_cwS 3 C.1.2.2.2.2 gX11_type_X11_within rfl rfl rfl (by decide +kernel) ⟨Nat.le_of_ble_eq_true rfl, Nat.le_of_ble_eq_true rfl⟩) rfl rfl (Nat.le_of_ble_eq_true rfl) dX11_type_5 ⟨Nat.le_of_ble_eq_true rfl, Nat.le_of_ble_eq_true rfl⟩ ?_
  refine a_if_ne C dX11_type_8 (tgt := 22) (by decide) (fun _ => ?_) (fun h => absurd h (by decide))
  refine a_aload_n C dX11_type_22 0 rfl ?_
  refine a_getR C (k := 0) iX11 x_k0 rfl (j := 9) rfl (by decide) (by decide +kernel) dX11_type_23 ?_
  refine a_callV C (k := 168) (As := []) (rest := []) (c_T_isFull_t l G d hk) (cwV 0 C.1.2.2.2.2 gX11_type_X3_isFull rfl rfl rfl (by decide +kernel) ⟨Nat.le_of_ble_eq_true rfl, Nat.le_of_ble_eq_true rfl⟩) x_k168 (q := (RX3, TX3, 7)) rfl rfl rfl rfl (Nat.le_of_ble_eq_true rfl) dX11_type_26 ⟨Nat.le_of_ble_eq_true rfl, Nat.le_of_ble_eq_true rfl⟩ ?_
  refine a_if_eq C dX11_type_29 (tgt := 43) (by decide) (fun h => absurd h (by decide)) (fun _ => ?_)
  exact a_throw C hr hlocks hfl (is := 332) (cls := "java/lang/IllegalStateException") (ic := 334) (ik := 330) (text := "the text buffer is full") (by decide) rfl (by decide +kernel) (by decide +kernel) (fun w hw => List.mem_cons_of_mem _ (List.mem_append_left _ (List.mem_append_right _ hw))) dX11_type_32 dX11_type_35 dX11_type_36 dX11_type_39 dX11_type_42 (Nat.le_of_ble_eq_true rfl) (Nat.le_of_ble_eq_true rfl) (by decide) (by decide) (rfl)

set_option maxHeartbeats 1000000 in
set_option maxRecDepth 100000 in
theorem c_F_type (l : Launch) (G : xG) (d : xd) (a : Nat) (ha : a < 65536) (hx : 32 ≤ nI a ∧ nI a ≤ 126) (k : Nat) (hk : d 168 1 = nI k) (hk6 : k < 60) : x_M G l yX11_type wsX11_type 3 0 0 [.ref (x_b G + 0), .int (nI a)] d (some (.int (nI (k + 1)))) (x_p (x_p d 169 k (nI a)) 168 1 (nI (k + 1))) := by
  have iX11 : ∀ w ∈ u_ws RX11 TX11 13, w ∈ wsX11_type := by decide +kernel
  refine x_start (cc := cX11_type) (maxL := 2) (ret := (some .int)) (own := RX11) (by decide) rfl rfl (Nat.le_of_ble_eq_true rfl) (lst := [(0, .ref (x_b G + 0)), (1, .int (nI a))]) rfl ?_
  intro p e s m args below meth c C hr hlocks
  refine a_iload_n C dX11_type_0 1 rfl ?_
  refine a_bipush C dX11_type_1 (v := 32) (by decide) ?_
  refine a_bipush C dX11_type_3 (v := 126) (by decide) ?_
  refine a_callS C (As := [.int (nI a), .int 32, .int 126]) (rest := []) (c_within_t l G d (nI a) 32 126 hx) (va_cwS 3 C.1.2.2.2.2 gX11_type_X11_within rfl rfl rfl (by decide +kernel) ⟨Nat.le_of_ble_eq_true rfl, Nat.le_of_ble_eq_true rfl⟩) rfl rfl (Nat.le_of_ble_eq_true rfl) dX11_type_5 ⟨Nat.le_of_ble_eq_true rfl, Nat.le_of_ble_eq_true rfl⟩ ?_
  refine a_if_ne C dX11_type_8 (tgt := 22) (by decide) (fun _ => ?_) (fun h => absurd h (by decide))
  refine a_aload_n C dX11_type_22 0 rfl ?_
  refine a_getR C (k := 0) iX11 x_k0 rfl (j := 9) rfl (by decide) (by decide +kernel) dX11_type_23 ?_
  refine a_callV C (k := 168) (As := []) (rest := []) (c_T_isFull_f l G d k hk hk6) (cwV 0 C.1.2.2.2.2 gX11_type_X3_isFull rfl rfl rfl (by decide +kernel) ⟨Nat.le_of_ble_eq_true rfl, Nat.le_of_ble_eq_true rfl⟩) x_k168 (q := (RX3, TX3, 7)) rfl rfl rfl rfl (Nat.le_of_ble_eq_true rfl) dX11_type_26 ⟨Nat.le_of_ble_eq_true rfl, Nat.le_of_ble_eq_true rfl⟩ ?_
  refine a_if_eq C dX11_type_29 (tgt := 43) (by decide) (fun _ => ?_) (fun h => absurd h (by decide))
  refine a_aload_n C dX11_type_43 0 rfl ?_
  refine a_getR C (k := 0) iX11 x_k0 rfl (j := 9) rfl (by decide) (by decide +kernel) dX11_type_44 ?_
  refine a_iload_n C dX11_type_47 1 rfl ?_
  refine a_callV C (k := 168) (As := [.int (nI a)]) (rest := []) (c_T_append l G d k hk hk6 a ha) (cwV 1 C.1.2.2.2.2 gX11_type_X3_append rfl rfl rfl (by decide +kernel) ⟨Nat.le_of_ble_eq_true rfl, Nat.le_of_ble_eq_true rfl⟩) x_k168 (q := (RX3, TX3, 7)) rfl rfl rfl rfl (Nat.le_of_ble_eq_true rfl) dX11_type_48 ⟨Nat.le_of_ble_eq_true rfl, Nat.le_of_ble_eq_true rfl⟩ ?_
  exact a_iret C hlocks hr dX11_type_51 rfl rfl

set_option maxHeartbeats 1000000 in
set_option maxRecDepth 100000 in
theorem c_F_errorPosition_4 (l : Launch) (hfl : l.stackTraces = false) (G : xG) (d : xd) (hx : d 0 11 = -1) : x_X G l yX11_errorPosition wsX11_errorPosition 3 [.ref (x_b G + 0)] d "java/util/NoSuchElementException" d := by
  have iX11 : ∀ w ∈ u_ws RX11 TX11 13, w ∈ wsX11_errorPosition := by decide +kernel
  refine x_startX (cc := cX11_errorPosition) (maxL := 1) (ret := (some .int)) (own := RX11) (by decide) rfl rfl (Nat.le_of_ble_eq_true rfl) (lst := [(0, .ref (x_b G + 0))]) rfl ?_
  intro p e s m args below meth c C hr hlocks
  refine a_aload_n C dX11_errorPosition_0 0 rfl ?_
  refine a_getI C (k := 0) iX11 x_k0 rfl (j := 11) rfl (by decide) (by decide +kernel) dX11_errorPosition_1 ?_
  refine a_top (y := (-1)) hx ?_
  refine a_iconst C dX11_errorPosition_4 (v := -1) (by decide) ?_
  refine a_icmp_ne C dX11_errorPosition_5 (tgt := 19) (by decide) (fun h => absurd h (by decide)) (fun _ => ?_)
  exact a_throwN C hr hlocks hfl (is := 359) (cls := "java/util/NoSuchElementException") (ic := 276) (ik := 272) (text := "no text was malformed so far") (by decide) rfl (by decide +kernel) (by decide +kernel) (fun w hw => List.mem_cons_of_mem _ (List.mem_append_right _ hw)) dX11_errorPosition_8 dX11_errorPosition_11 dX11_errorPosition_12 dX11_errorPosition_15 dX11_errorPosition_18 (Nat.le_of_ble_eq_true rfl) (Nat.le_of_ble_eq_true rfl) (by decide) (by decide) (rfl)

set_option maxHeartbeats 1000000 in
set_option maxRecDepth 100000 in
theorem c_F_errorPosition (l : Launch) (G : xG) (d : xd) (hx : ¬ d 0 11 = -1) : x_M G l yX11_errorPosition wsX11_errorPosition 3 0 0 [.ref (x_b G + 0)] d (some (.int (d 0 11))) d := by
  have iX11 : ∀ w ∈ u_ws RX11 TX11 13, w ∈ wsX11_errorPosition := by decide +kernel
  refine x_start (cc := cX11_errorPosition) (maxL := 1) (ret := (some .int)) (own := RX11) (by decide) rfl rfl (Nat.le_of_ble_eq_true rfl) (lst := [(0, .ref (x_b G + 0))]) rfl ?_
  intro p e s m args below meth c C hr hlocks
  refine a_aload_n C dX11_errorPosition_0 0 rfl ?_
  refine a_getI C (k := 0) iX11 x_k0 rfl (j := 11) rfl (by decide) (by decide +kernel) dX11_errorPosition_1 ?_
  refine a_iconst C dX11_errorPosition_4 (v := -1) (by decide) ?_
  refine a_icmp_ne C dX11_errorPosition_5 (tgt := 19) (by decide) (fun h5 => ?_) (fun h => False.elim (hx h))
  refine a_aload_n C dX11_errorPosition_19 0 rfl ?_
  refine a_getI C (k := 0) iX11 x_k0 rfl (j := 11) rfl (by decide) (by decide +kernel) dX11_errorPosition_20 ?_
  exact a_iret C hlocks hr dX11_errorPosition_23 rfl rfl

set_option maxHeartbeats 1000000 in
set_option maxRecDepth 100000 in
theorem c_F_failedCommand_4 (l : Launch) (hfl : l.stackTraces = false) (G : xG) (d : xd) (hx : d 0 12 = -1) : x_X G l yX11_failedCommand wsX11_failedCommand 3 [.ref (x_b G + 0)] d "java/util/NoSuchElementException" d := by
  have iX11 : ∀ w ∈ u_ws RX11 TX11 13, w ∈ wsX11_failedCommand := by decide +kernel
  refine x_startX (cc := cX11_failedCommand) (maxL := 1) (ret := (some .int)) (own := RX11) (by decide) rfl rfl (Nat.le_of_ble_eq_true rfl) (lst := [(0, .ref (x_b G + 0))]) rfl ?_
  intro p e s m args below meth c C hr hlocks
  refine a_aload_n C dX11_failedCommand_0 0 rfl ?_
  refine a_getI C (k := 0) iX11 x_k0 rfl (j := 12) rfl (by decide) (by decide +kernel) dX11_failedCommand_1 ?_
  refine a_top (y := (-1)) hx ?_
  refine a_iconst C dX11_failedCommand_4 (v := -1) (by decide) ?_
  refine a_icmp_ne C dX11_failedCommand_5 (tgt := 19) (by decide) (fun h => absurd h (by decide)) (fun _ => ?_)
  exact a_throwN C hr hlocks hfl (is := 361) (cls := "java/util/NoSuchElementException") (ic := 276) (ik := 272) (text := "no command failed so far") (by decide) rfl (by decide +kernel) (by decide +kernel) (fun w hw => List.mem_cons_of_mem _ (List.mem_append_right _ hw)) dX11_failedCommand_8 dX11_failedCommand_11 dX11_failedCommand_12 dX11_failedCommand_15 dX11_failedCommand_18 (Nat.le_of_ble_eq_true rfl) (Nat.le_of_ble_eq_true rfl) (by decide) (by decide) (rfl)

set_option maxHeartbeats 1000000 in
set_option maxRecDepth 100000 in
theorem c_F_failedCommand (l : Launch) (G : xG) (d : xd) (hx : ¬ d 0 12 = -1) : x_M G l yX11_failedCommand wsX11_failedCommand 3 0 0 [.ref (x_b G + 0)] d (some (.int (d 0 12))) d := by
  have iX11 : ∀ w ∈ u_ws RX11 TX11 13, w ∈ wsX11_failedCommand := by decide +kernel
  refine x_start (cc := cX11_failedCommand) (maxL := 1) (ret := (some .int)) (own := RX11) (by decide) rfl rfl (Nat.le_of_ble_eq_true rfl) (lst := [(0, .ref (x_b G + 0))]) rfl ?_
  intro p e s m args below meth c C hr hlocks
  refine a_aload_n C dX11_failedCommand_0 0 rfl ?_
  refine a_getI C (k := 0) iX11 x_k0 rfl (j := 12) rfl (by decide) (by decide +kernel) dX11_failedCommand_1 ?_
  refine a_iconst C dX11_failedCommand_4 (v := -1) (by decide) ?_
  refine a_icmp_ne C dX11_failedCommand_5 (tgt := 19) (by decide) (fun h5 => ?_) (fun h => False.elim (hx h))
  refine a_aload_n C dX11_failedCommand_19 0 rfl ?_
  refine a_getI C (k := 0) iX11 x_k0 rfl (j := 12) rfl (by decide) (by decide +kernel) dX11_failedCommand_20 ?_
  exact a_iret C hlocks hr dX11_failedCommand_23 rfl rfl

set_option maxHeartbeats 1000000 in
set_option maxRecDepth 100000 in
theorem c_F_lowestCap_4 (l : Launch) (hfl : l.stackTraces = false) (G : xG) (d : xd) (hn : d 2 0 = 0) : x_X G l yX11_lowestCap wsX11_lowestCap 5 [.ref (x_b G + 0)] d "java/util/NoSuchElementException" d := by
  have iX11 : ∀ w ∈ u_ws RX11 TX11 13, w ∈ wsX11_lowestCap := by decide +kernel
  have iX5 : ∀ w ∈ u_ws RX5 TX5 8, w ∈ wsX11_lowestCap := by decide +kernel
  have iX9 : ∀ w ∈ u_ws RX9 TX9 3, w ∈ wsX11_lowestCap := by decide +kernel
  refine x_startX (cc := cX11_lowestCap) (maxL := 2) (ret := (some .int)) (own := RX11) (by decide) rfl rfl (Nat.le_of_ble_eq_true rfl) (lst := [(0, .ref (x_b G + 0))]) rfl ?_
  intro p e s m args below meth c C hr hlocks
  refine a_aload_n C dX11_lowestCap_0 0 rfl ?_
  refine a_getR C (k := 0) iX11 x_k0 rfl (j := 0) rfl (by decide) (by decide +kernel) dX11_lowestCap_1 ?_
  refine a_getR C (k := 1) iX9 (x_sS0 x_isS_1) rfl (j := 0) rfl (by decide) (by decide +kernel) dX11_lowestCap_4 ?_
  refine a_getI C (k := 2) iX5 (x_sS1 x_isS_1) rfl (j := 0) rfl (by decide) (by decide +kernel) dX11_lowestCap_7 ?_
  refine a_top (y := 0) hn ?_
  refine a_if_ne C dX11_lowestCap_10 (tgt := 24) (by decide) (fun h => absurd h (by decide)) (fun _ => ?_)
  exact a_throwN C hr hlocks hfl (is := 274) (cls := "java/util/NoSuchElementException") (ic := 276) (ik := 272) (text := "there are no lamps") (by decide) rfl (by decide +kernel) (by decide +kernel) (fun w hw => List.mem_cons_of_mem _ (List.mem_append_left _ (List.mem_append_right _ hw))) dX11_lowestCap_13 dX11_lowestCap_16 dX11_lowestCap_17 dX11_lowestCap_20 dX11_lowestCap_23 (Nat.le_of_ble_eq_true rfl) (Nat.le_of_ble_eq_true rfl) (by decide) (by decide) (rfl)

theorem x_eqk {i k : Nat} (hi : i ≤ k) (h : i < k → False) : i = k := by
  rcases Nat.lt_or_ge i k with z | z
  · exact (h z).elim
  · omega
theorem x_ltk {i k : Nat} {P : Nat → Prop} (hi : i ≤ k) (h1 : k = 4 ∨ P k) (h : ¬ P i) (h4 : i = 4 → False) : i < k := by
  rcases Nat.lt_or_ge i k with z | z
  · exact z
  · have e : i = k := by omega
    subst e
    rcases h1 with h1 | h1
    · exact (h4 h1).elim
    · exact (h h1).elim
set_option maxHeartbeats 1000000 in
set_option maxRecDepth 100000 in
theorem c_F_lowestCap (l : Launch) (G : xG) (d : xd) (n : Nat) (hn : d 2 0 = nI n) (h8 : n ≤ 8) (h1 : 1 ≤ n) (k : Nat) (hk : k < 5) (hk1 : k = 4 ∨ f_wc d 1 n (nI (k + 1)) = true) (hk0 : ∀ j, j < k → ¬ f_wc d 1 n (nI (j + 1)) = true) : x_M G l yX11_lowestCap wsX11_lowestCap 5 0 0 [.ref (x_b G + 0)] d (some (.int (nI (k + 1)))) d := by
  have iX11 : ∀ w ∈ u_ws RX11 TX11 13, w ∈ wsX11_lowestCap := by decide +kernel
  have iX5 : ∀ w ∈ u_ws RX5 TX5 8, w ∈ wsX11_lowestCap := by decide +kernel
  have iX9 : ∀ w ∈ u_ws RX9 TX9 3, w ∈ wsX11_lowestCap := by decide +kernel
  refine x_start (cc := cX11_lowestCap) (maxL := 2) (ret := (some .int)) (own := RX11) (by decide) rfl rfl (Nat.le_of_ble_eq_true rfl) (lst := [(0, .ref (x_b G + 0))]) rfl ?_
  intro p e s m args below meth c C hr hlocks
  refine a_aload_n C dX11_lowestCap_0 0 rfl ?_
  refine a_getR C (k := 0) iX11 x_k0 rfl (j := 0) rfl (by decide) (by decide +kernel) dX11_lowestCap_1 ?_
  refine a_getR C (k := 1) iX9 (x_sS0 x_isS_1) rfl (j := 0) rfl (by decide) (by decide +kernel) dX11_lowestCap_4 ?_
  refine a_getI C (k := 2) iX5 (x_sS1 x_isS_1) rfl (j := 0) rfl (by decide) (by decide +kernel) dX11_lowestCap_7 ?_
  refine a_top (y := (nI n)) hn ?_
  refine a_if_ne C dX11_lowestCap_10 (tgt := 24) (by decide) (fun h10 => ?_) (fun h => False.elim (nI_ne0 h1 (by omega) h))
  refine a_iconst C dX11_lowestCap_24 (v := 1) (by decide) ?_
  refine a_istore_n C dX11_lowestCap_25 (by decide) (lst2 := [(1, .int 1), (0, .ref (x_b G + 0))]) rfl ?_
  have L26 : ∀ (j i : Nat), i ≤ k → k < i + j → Ab G p l e (x_rm 5 0 0) s m args below meth c 2 0 0 (MQ below (x_Q G (some (.int (nI (k + 1)))) d) args s 0 0 (x_A G)) 26 [(1, .int (nI (i + 1))), (0, .ref (x_b G + 0))] [] d := by
    intro j
    induction j with
    | zero => intro i h1 h2; exact absurd h2 (by omega)
    | succ j ih =>
      intro i hi hj 
      refine a_iload_n C dX11_lowestCap_26 0 rfl ?_
      refine a_iconst C dX11_lowestCap_27 (v := 5) (by decide) ?_
      refine a_icmp_ge C dX11_lowestCap_28 (tgt := 51) (by decide) (fun h28 => ?_) (fun h28 => ?_)
      · skip
        have e : i = k := by have := (nI_leI (a := 5) (by omega) (by omega)).mp h28; omega
        refine a_iload_n C dX11_lowestCap_51 0 rfl ?_
        exact a_iret C hlocks hr dX11_lowestCap_52 (by rw [e]) rfl
      · skip
        refine a_aload_n C dX11_lowestCap_31 1 rfl ?_
        refine a_getR C (k := 0) iX11 x_k0 rfl (j := 0) rfl (by decide) (by decide +kernel) dX11_lowestCap_32 ?_
        refine a_getR C (k := 1) iX9 (x_sS0 x_isS_1) rfl (j := 0) rfl (by decide) (by decide +kernel) dX11_lowestCap_35 ?_
        refine a_iload_n C dX11_lowestCap_38 0 rfl ?_
        refine a_callV C (k := 2) (As := [.int (nI (i + 1))]) (rest := []) (c_X5_wouldCarry l G d 1 n x_isS_1 hn h8 (nI (i + 1))) (cwV 1 C.1.2.2.2.2 gX11_lowestCap_X5_wouldCarry rfl rfl rfl (by decide +kernel) ⟨Nat.le_of_ble_eq_true rfl, Nat.le_of_ble_eq_true rfl⟩) (x_sS1 x_isS_1) (q := (RX5, TX5, 8)) rfl rfl rfl rfl (Nat.le_of_ble_eq_true rfl) dX11_lowestCap_39 ⟨Nat.le_of_ble_eq_true rfl, Nat.le_of_ble_eq_true rfl⟩ ?_
        refine a_if_ne C dX11_lowestCap_42 (tgt := 51) (by decide) (fun h42 => ?_) (fun h42 => ?_)
        · skip
          have e : i = k := x_eqk hi (fun z => hk0 i z (x_bi_nz h42))
          refine a_iload_n C dX11_lowestCap_51 0 rfl ?_
          exact a_iret C hlocks hr dX11_lowestCap_52 (by rw [e]) rfl
        · skip
          have hnc := x_bi_z h42
          have hlt : i < k := x_ltk (P := fun z => f_wc d 1 n (nI (z + 1)) = true) hi hk1 hnc (fun z => h28 ((nI_leI (a := 5) (by omega) (by omega)).mpr (by omega)))
          refine a_iinc C dX11_lowestCap_45 0 rfl (v := (nI (i + 1 + 1))) (x_inc (i + 1)) (by decide) (lst2 := [(1, .int (nI (i + 1 + 1))), (0, .ref (x_b G + 0))]) rfl ?_
          refine a_goto C dX11_lowestCap_48 (tgt := 26) (by decide) ?_
          refine a_sub (lst2 := [(1, .int (nI (i + 1 + 1))), (0, .ref (x_b G + 0))]) [0, 1] rfl ?_
          refine a_to (lst2 := [(1, .int (nI (((i + 1)) + 1))), (0, .ref (x_b G + 0))]) (st2 := []) (d2 := d) rfl rfl rfl ?_
          exact ih (i + 1) (by omega) (by omega) 
  refine a_sub (lst2 := [(1, .int 1), (0, .ref (x_b G + 0))]) [0, 1] rfl ?_
  exact L26 (k + 1) 0 (by omega) (by omega) 

set_option maxHeartbeats 1000000 in
set_option maxRecDepth 100000 in
theorem c_F_requireRank (l : Launch) (G : xG) (d : xd) (n : Nat) (hn : d 2 0 = nI n) (h8 : n ≤ 8) (i : Nat) (hi : i < n) : x_M G l yX11_requireRank wsX11_requireRank 2 0 0 [.ref (x_b G + 0), .int (nI i)] d none d := by
  have iX11 : ∀ w ∈ u_ws RX11 TX11 13, w ∈ wsX11_requireRank := by decide +kernel
  have iX9 : ∀ w ∈ u_ws RX9 TX9 3, w ∈ wsX11_requireRank := by decide +kernel
  refine x_start (cc := cX11_requireRank) (maxL := 2) (ret := none) (own := RX11) (by decide) rfl rfl (Nat.le_of_ble_eq_true rfl) (lst := [(0, .ref (x_b G + 0)), (1, .int (nI i))]) rfl ?_
  intro p e s m args below meth c C hr hlocks
  refine a_aload_n C dX11_requireRank_0 0 rfl ?_
  refine a_getR C (k := 0) iX11 x_k0 rfl (j := 0) rfl (by decide) (by decide +kernel) dX11_requireRank_1 ?_
  refine a_getR C (k := 1) iX9 (x_sS0 x_isS_1) rfl (j := 0) rfl (by decide) (by decide +kernel) dX11_requireRank_4 ?_
  refine a_iload_n C dX11_requireRank_7 1 rfl ?_
  refine a_callV C (k := 2) (As := [.int (nI i)]) (rest := []) (c_X5_has l G d 1 x_isS_1 (nI i)) (cwV 1 C.1.2.2.2.2 gX11_requireRank_X5_has rfl rfl rfl (by decide +kernel) ⟨Nat.le_of_ble_eq_true rfl, Nat.le_of_ble_eq_true rfl⟩) (x_sS1 x_isS_1) (q := (RX5, TX5, 8)) rfl rfl rfl rfl (Nat.le_of_ble_eq_true rfl) dX11_requireRank_8 ⟨Nat.le_of_ble_eq_true rfl, Nat.le_of_ble_eq_true rfl⟩ ?_
  refine a_top (y := 1) ((by rw [show d (1 + 1) 0 = nI n from hn]; exact x_bi_t (x_in0 hi (by omega)))) ?_
  refine a_if_ne C dX11_requireRank_11 (tgt := 25) (by decide) (fun _ => ?_) (fun h => absurd h (by decide))
  exact a_vret C hlocks hr dX11_requireRank_25 rfl

set_option maxHeartbeats 1000000 in
set_option maxRecDepth 100000 in
theorem c_F_requireRank_4 (l : Launch) (hfl : l.stackTraces = false) (G : xG) (d : xd) (x : Int32) (n : Nat) (hn : d 2 0 = nI n) (hx : ¬ (0 ≤ x ∧ x < nI n)) : x_X G l yX11_requireRank wsX11_requireRank 2 [.ref (x_b G + 0), .int x] d "java/util/NoSuchElementException" d := by
  have iX11 : ∀ w ∈ u_ws RX11 TX11 13, w ∈ wsX11_requireRank := by decide +kernel
  have iX9 : ∀ w ∈ u_ws RX9 TX9 3, w ∈ wsX11_requireRank := by decide +kernel
  refine x_startX (cc := cX11_requireRank) (maxL := 2) (ret := none) (own := RX11) (by decide) rfl rfl (Nat.le_of_ble_eq_true rfl) (lst := [(0, .ref (x_b G + 0)), (1, .int x)]) rfl ?_
  intro p e s m args below meth c C hr hlocks
  refine a_aload_n C dX11_requireRank_0 0 rfl ?_
  refine a_getR C (k := 0) iX11 x_k0 rfl (j := 0) rfl (by decide) (by decide +kernel) dX11_requireRank_1 ?_
  refine a_getR C (k := 1) iX9 (x_sS0 x_isS_1) rfl (j := 0) rfl (by decide) (by decide +kernel) dX11_requireRank_4 ?_
  refine a_iload_n C dX11_requireRank_7 1 rfl ?_
  refine a_callV C (k := 2) (As := [.int x]) (rest := []) (c_X5_has l G d 1 x_isS_1 x) (cwV 1 C.1.2.2.2.2 gX11_requireRank_X5_has rfl rfl rfl (by decide +kernel) ⟨Nat.le_of_ble_eq_true rfl, Nat.le_of_ble_eq_true rfl⟩) (x_sS1 x_isS_1) (q := (RX5, TX5, 8)) rfl rfl rfl rfl (Nat.le_of_ble_eq_true rfl) dX11_requireRank_8 ⟨Nat.le_of_ble_eq_true rfl, Nat.le_of_ble_eq_true rfl⟩ ?_
  refine a_top (y := 0) ((by rw [show d (1 + 1) 0 = nI n from hn]; exact x_bi_f hx)) ?_
  refine a_if_ne C dX11_requireRank_11 (tgt := 25) (by decide) (fun h => absurd h (by decide)) (fun _ => ?_)
  exact a_throwN C hr hlocks hfl (is := 399) (cls := "java/util/NoSuchElementException") (ic := 276) (ik := 272) (text := "there is no such rank") (by decide) rfl (by decide +kernel) (by decide +kernel) (fun w hw => List.mem_cons_of_mem _ (List.mem_append_right _ hw)) dX11_requireRank_14 dX11_requireRank_17 dX11_requireRank_18 dX11_requireRank_21 dX11_requireRank_24 (Nat.le_of_ble_eq_true rfl) (Nat.le_of_ble_eq_true rfl) (by decide) (by decide) (rfl)

theorem x_rgt {a b : Nat} (h : ¬ nI b ≤ nI a) (ha : a < 100000) (hb : b < 100000) : a < b := Nat.lt_of_not_le (fun z => h (nI_le z (by omega)))
theorem x_rle {a b : Nat} (h : nI b ≤ nI a) (ha : a < 100000) (hb : b < 100000) (z : a < b) : False := nI_ge z (by omega) h
set_option maxHeartbeats 1000000 in
set_option maxRecDepth 100000 in
theorem c_F_lampsAheadOf (l : Launch) (G : xG) (d : xd) (n : Nat) (hn : d 2 0 = nI n) (h8 : n ≤ 8) (i : Nat) (hi9 : i < n) (r : Nat → Nat) (hr9 : ∀ j, j < n → r j < 100000) (hv : ∀ j, j < n → d 167 j = nI (r j))  : x_M G l yX11_lampsAheadOf wsX11_lampsAheadOf 1 0 0 [.ref (x_b G + 0), .int (nI i)] d (some (.int (nI (g_ah r i n)))) d := by
  have iX11 : ∀ w ∈ u_ws RX11 TX11 13, w ∈ wsX11_lampsAheadOf := by decide +kernel
  have iX5 : ∀ w ∈ u_ws RX5 TX5 8, w ∈ wsX11_lampsAheadOf := by decide +kernel
  have iX9 : ∀ w ∈ u_ws RX9 TX9 3, w ∈ wsX11_lampsAheadOf := by decide +kernel
  refine x_start (cc := cX11_lampsAheadOf) (maxL := 6) (ret := (some .int)) (own := RX11) (by decide) rfl rfl (Nat.le_of_ble_eq_true rfl) (lst := [(0, .ref (x_b G + 0)), (1, .int (nI i))]) rfl ?_
  intro p e s m args below meth c C hr hlocks
  refine a_iconst C dX11_lampsAheadOf_0 (v := 0) (by decide) ?_
  refine a_istore_n C dX11_lampsAheadOf_1 (by decide) (lst2 := [(2, .int 0), (0, .ref (x_b G + 0)), (1, .int (nI i))]) rfl ?_
  refine a_iconst C dX11_lampsAheadOf_2 (v := 0) (by decide) ?_
  refine a_istore_n C dX11_lampsAheadOf_3 (by decide) (lst2 := [(3, .int 0), (2, .int 0), (0, .ref (x_b G + 0)), (1, .int (nI i))]) rfl ?_
  have L4 : ∀ (j w : Nat), w ≤ n → n < w + j → Ab G p l e (x_rm 1 0 0) s m args below meth c 6 0 0 (MQ below (x_Q G (some (.int (nI (g_ah r i n)))) d) args s 0 0 (x_A G)) 4 [(3, .int (nI w)), (2, .int (nI (g_ah r i w))), (0, .ref (x_b G + 0)), (1, .int (nI i))] [] d := by
    intro j
    induction j with
    | zero => intro w h1 h2; exact absurd h2 (by omega)
    | succ j ih =>
      intro w hi hj 
      refine a_iload_n C dX11_lampsAheadOf_4 0 rfl ?_
      refine a_aload_n C dX11_lampsAheadOf_5 2 rfl ?_
      refine a_getR C (k := 0) iX11 x_k0 rfl (j := 0) rfl (by decide) (by decide +kernel) dX11_lampsAheadOf_6 ?_
      refine a_getR C (k := 1) iX9 (x_sS0 x_isS_1) rfl (j := 0) rfl (by decide) (by decide +kernel) dX11_lampsAheadOf_9 ?_
      refine a_getI C (k := 2) iX5 (x_sS1 x_isS_1) rfl (j := 0) rfl (by decide) (by decide +kernel) dX11_lampsAheadOf_12 ?_
      refine a_top (y := (nI n)) hn ?_
      refine a_icmp_ge C dX11_lampsAheadOf_15 (tgt := 86) (by decide) (fun h15 => ?_) (fun h15 => ?_)
      · skip
        have e := x_ge h15 hi (by omega)
        have e9 := e.symm
        subst e9
        clear e
        refine a_iload_n C dX11_lampsAheadOf_86 1 rfl ?_
        exact a_iret C hlocks hr dX11_lampsAheadOf_87 rfl rfl
      · skip
        have hlt := x_nge h15 hi
        refine a_aload_n C dX11_lampsAheadOf_18 2 rfl ?_
        refine a_getR C (k := 0) iX11 x_k0 rfl (j := 8) rfl (by decide) (by decide +kernel) dX11_lampsAheadOf_19 ?_
        refine a_iload_n C dX11_lampsAheadOf_22 0 rfl ?_
        refine a_ialdN C (k := 167) x_k167 (i := w) rfl (by omega) (by first | decide | omega) dX11_lampsAheadOf_23 ?_
        refine a_top (y := (nI (r w))) (hv w hlt) ?_
        refine a_aload_n C dX11_lampsAheadOf_24 2 rfl ?_
        refine a_getR C (k := 0) iX11 x_k0 rfl (j := 8) rfl (by decide) (by decide +kernel) dX11_lampsAheadOf_25 ?_
        refine a_iload_n C dX11_lampsAheadOf_28 3 rfl ?_
        refine a_ialdN C (k := 167) x_k167 (i := i) rfl (by omega) (by first | decide | omega) dX11_lampsAheadOf_29 ?_
        refine a_top (y := (nI (r i))) (hv i hi9) ?_
        refine a_icmp_le C dX11_lampsAheadOf_30 (tgt := 37) (by decide) (fun h30 => ?_) (fun h30 => ?_)
        · skip
          refine a_iconst C dX11_lampsAheadOf_37 (v := 0) (by decide) ?_
          refine a_istore C dX11_lampsAheadOf_38 (by decide) (lst2 := [(4, .int 0), (3, .int (nI w)), (2, .int (nI (g_ah r i w))), (0, .ref (x_b G + 0)), (1, .int (nI i))]) rfl ?_
          refine a_aload_n C dX11_lampsAheadOf_40 3 rfl ?_
          refine a_getR C (k := 0) iX11 x_k0 rfl (j := 8) rfl (by decide) (by decide +kernel) dX11_lampsAheadOf_41 ?_
          refine a_iload_n C dX11_lampsAheadOf_44 1 rfl ?_
          refine a_ialdN C (k := 167) x_k167 (i := w) rfl (by omega) (by first | decide | omega) dX11_lampsAheadOf_45 ?_
          refine a_top (y := (nI (r w))) (hv w hlt) ?_
          refine a_aload_n C dX11_lampsAheadOf_46 3 rfl ?_
          refine a_getR C (k := 0) iX11 x_k0 rfl (j := 8) rfl (by decide) (by decide +kernel) dX11_lampsAheadOf_47 ?_
          refine a_iload_n C dX11_lampsAheadOf_50 4 rfl ?_
          refine a_ialdN C (k := 167) x_k167 (i := i) rfl (by omega) (by first | decide | omega) dX11_lampsAheadOf_51 ?_
          refine a_top (y := (nI (r i))) (hv i hi9) ?_
          refine a_icmp_ne C dX11_lampsAheadOf_52 (tgt := 64) (by decide) (fun h52 => ?_) (fun h52 => ?_)
          · skip
            have hno : ¬ (r w = r i ∧ w < i) := fun z => h52 (congrArg nI z.1)
            refine a_iconst C dX11_lampsAheadOf_64 (v := 0) (by decide) ?_
            refine a_istore C dX11_lampsAheadOf_65 (by decide) (lst2 := [(5, .int 0), (4, .int 0), (3, .int (nI w)), (2, .int (nI (g_ah r i w))), (0, .ref (x_b G + 0)), (1, .int (nI i))]) rfl ?_
            refine a_iload C dX11_lampsAheadOf_67 1 rfl ?_
            refine a_if_ne C dX11_lampsAheadOf_69 (tgt := 77) (by decide) (fun h => absurd h (by decide)) (fun _ => ?_)
            refine a_iload C dX11_lampsAheadOf_72 0 rfl ?_
            refine a_if_eq C dX11_lampsAheadOf_74 (tgt := 80) (by decide) (fun _ => ?_) (fun h => absurd h (by decide))
            refine a_iinc C dX11_lampsAheadOf_80 2 rfl (v := (nI (w + 1))) (x_inc w) (by decide) (lst2 := [(3, .int (nI (w + 1))), (5, .int 0), (4, .int 0), (2, .int (nI (g_ah r i w))), (0, .ref (x_b G + 0)), (1, .int (nI i))]) rfl ?_
            refine a_goto C dX11_lampsAheadOf_83 (tgt := 4) (by decide) ?_
            refine a_sub (lst2 := [(3, .int (nI (w + 1))), (2, .int (nI (g_ah r i w))), (0, .ref (x_b G + 0)), (1, .int (nI i))]) [0, 3, 4, 5] rfl ?_
            refine a_to (lst2 := [(3, .int (nI ((w + 1)))), (2, .int (nI (g_ah r i ((w + 1))))), (0, .ref (x_b G + 0)), (1, .int (nI i))]) (st2 := []) (d2 := d) (by rw [g_ah, if_neg (fun z => z.elim (fun y => x_rle h30 (hr9 i hi9) (hr9 w hlt) y) (fun y => hno y))]) rfl rfl ?_
            exact ih (w + 1) (by omega) (by omega) 
          · skip
            refine a_iload_n C dX11_lampsAheadOf_55 1 rfl ?_
            refine a_iload_n C dX11_lampsAheadOf_56 4 rfl ?_
            refine a_icmp_ge C dX11_lampsAheadOf_57 (tgt := 64) (by decide) (fun h57 => ?_) (fun h57 => ?_)
            · skip
              have hno : ¬ (r w = r i ∧ w < i) := fun z => nI_ge z.2 (by omega) h57
              refine a_iconst C dX11_lampsAheadOf_64 (v := 0) (by decide) ?_
              refine a_istore C dX11_lampsAheadOf_65 (by decide) (lst2 := [(5, .int 0), (4, .int 0), (3, .int (nI w)), (2, .int (nI (g_ah r i w))), (0, .ref (x_b G + 0)), (1, .int (nI i))]) rfl ?_
              refine a_iload C dX11_lampsAheadOf_67 1 rfl ?_
              refine a_if_ne C dX11_lampsAheadOf_69 (tgt := 77) (by decide) (fun h => absurd h (by decide)) (fun _ => ?_)
              refine a_iload C dX11_lampsAheadOf_72 0 rfl ?_
              refine a_if_eq C dX11_lampsAheadOf_74 (tgt := 80) (by decide) (fun _ => ?_) (fun h => absurd h (by decide))
              refine a_iinc C dX11_lampsAheadOf_80 2 rfl (v := (nI (w + 1))) (x_inc w) (by decide) (lst2 := [(3, .int (nI (w + 1))), (5, .int 0), (4, .int 0), (2, .int (nI (g_ah r i w))), (0, .ref (x_b G + 0)), (1, .int (nI i))]) rfl ?_
              refine a_goto C dX11_lampsAheadOf_83 (tgt := 4) (by decide) ?_
              refine a_sub (lst2 := [(3, .int (nI (w + 1))), (2, .int (nI (g_ah r i w))), (0, .ref (x_b G + 0)), (1, .int (nI i))]) [0, 3, 4, 5] rfl ?_
              refine a_to (lst2 := [(3, .int (nI ((w + 1)))), (2, .int (nI (g_ah r i ((w + 1))))), (0, .ref (x_b G + 0)), (1, .int (nI i))]) (st2 := []) (d2 := d) (by rw [g_ah, if_neg (fun z => z.elim (fun y => x_rle h30 (hr9 i hi9) (hr9 w hlt) y) (fun y => hno y))]) rfl rfl ?_
              exact ih (w + 1) (by omega) (by omega) 
            · skip
              have hwi : w ≤ i := Nat.le_of_not_lt (fun z => h57 (nI_le (Nat.le_of_lt z) (by omega)))
              refine a_iconst C dX11_lampsAheadOf_60 (v := 1) (by decide) ?_
              refine a_goto C dX11_lampsAheadOf_61 (tgt := 65) (by decide) ?_
              refine a_istore C dX11_lampsAheadOf_65 (by decide) (lst2 := [(5, .int 1), (4, .int 0), (3, .int (nI w)), (2, .int (nI (g_ah r i w))), (0, .ref (x_b G + 0)), (1, .int (nI i))]) rfl ?_
              refine a_iload C dX11_lampsAheadOf_67 1 rfl ?_
              refine a_if_ne C dX11_lampsAheadOf_69 (tgt := 77) (by decide) (fun h => absurd h (by decide)) (fun _ => ?_)
              refine a_iload C dX11_lampsAheadOf_72 0 rfl ?_
              refine a_if_eq C dX11_lampsAheadOf_74 (tgt := 80) (by decide) (fun h => absurd h (by decide)) (fun _ => ?_)
              refine a_iinc C dX11_lampsAheadOf_77 3 rfl (v := (nI (g_ah r i w + 1))) (x_inc (g_ah r i w)) (by decide) (lst2 := [(2, .int (nI (g_ah r i w + 1))), (5, .int 1), (4, .int 0), (3, .int (nI w)), (0, .ref (x_b G + 0)), (1, .int (nI i))]) rfl ?_
              refine a_iinc C dX11_lampsAheadOf_80 3 rfl (v := (nI (w + 1))) (x_inc w) (by decide) (lst2 := [(3, .int (nI (w + 1))), (2, .int (nI (g_ah r i w + 1))), (5, .int 1), (4, .int 0), (0, .ref (x_b G + 0)), (1, .int (nI i))]) rfl ?_
              refine a_goto C dX11_lampsAheadOf_83 (tgt := 4) (by decide) ?_
              refine a_sub (lst2 := [(3, .int (nI (w + 1))), (2, .int (nI (g_ah r i w + 1))), (0, .ref (x_b G + 0)), (1, .int (nI i))]) [0, 1, 4, 5] rfl ?_
              refine a_to (lst2 := [(3, .int (nI ((w + 1)))), (2, .int (nI (g_ah r i ((w + 1))))), (0, .ref (x_b G + 0)), (1, .int (nI i))]) (st2 := []) (d2 := d) (by rw [g_ah, if_pos (Or.inr ⟨(nI_eq (by have := hr9 w hlt; omega) (by have := hr9 i hi9; omega)).mp h52, x_nge h57 hwi⟩)]) rfl rfl ?_
              exact ih (w + 1) (by omega) (by omega) 
        · skip
          refine a_iconst C dX11_lampsAheadOf_33 (v := 1) (by decide) ?_
          refine a_goto C dX11_lampsAheadOf_34 (tgt := 38) (by decide) ?_
          refine a_istore C dX11_lampsAheadOf_38 (by decide) (lst2 := [(4, .int 1), (3, .int (nI w)), (2, .int (nI (g_ah r i w))), (0, .ref (x_b G + 0)), (1, .int (nI i))]) rfl ?_
          refine a_aload_n C dX11_lampsAheadOf_40 3 rfl ?_
          refine a_getR C (k := 0) iX11 x_k0 rfl (j := 8) rfl (by decide) (by decide +kernel) dX11_lampsAheadOf_41 ?_
          refine a_iload_n C dX11_lampsAheadOf_44 1 rfl ?_
          refine a_ialdN C (k := 167) x_k167 (i := w) rfl (by omega) (by first | decide | omega) dX11_lampsAheadOf_45 ?_
          refine a_top (y := (nI (r w))) (hv w hlt) ?_
          refine a_aload_n C dX11_lampsAheadOf_46 3 rfl ?_
          refine a_getR C (k := 0) iX11 x_k0 rfl (j := 8) rfl (by decide) (by decide +kernel) dX11_lampsAheadOf_47 ?_
          refine a_iload_n C dX11_lampsAheadOf_50 4 rfl ?_
          refine a_ialdN C (k := 167) x_k167 (i := i) rfl (by omega) (by first | decide | omega) dX11_lampsAheadOf_51 ?_
          refine a_top (y := (nI (r i))) (hv i hi9) ?_
          refine a_icmp_ne C dX11_lampsAheadOf_52 (tgt := 64) (by decide) (fun h52 => ?_) (fun h52 => ?_)
          · skip
            have hno : ¬ (r w = r i ∧ w < i) := fun z => h52 (congrArg nI z.1)
            refine a_iconst C dX11_lampsAheadOf_64 (v := 0) (by decide) ?_
            refine a_istore C dX11_lampsAheadOf_65 (by decide) (lst2 := [(5, .int 0), (4, .int 1), (3, .int (nI w)), (2, .int (nI (g_ah r i w))), (0, .ref (x_b G + 0)), (1, .int (nI i))]) rfl ?_
            refine a_iload C dX11_lampsAheadOf_67 1 rfl ?_
            refine a_if_ne C dX11_lampsAheadOf_69 (tgt := 77) (by decide) (fun _ => ?_) (fun h => absurd h (by decide))
            refine a_iinc C dX11_lampsAheadOf_77 3 rfl (v := (nI (g_ah r i w + 1))) (x_inc (g_ah r i w)) (by decide) (lst2 := [(2, .int (nI (g_ah r i w + 1))), (5, .int 0), (4, .int 1), (3, .int (nI w)), (0, .ref (x_b G + 0)), (1, .int (nI i))]) rfl ?_
            refine a_iinc C dX11_lampsAheadOf_80 3 rfl (v := (nI (w + 1))) (x_inc w) (by decide) (lst2 := [(3, .int (nI (w + 1))), (2, .int (nI (g_ah r i w + 1))), (5, .int 0), (4, .int 1), (0, .ref (x_b G + 0)), (1, .int (nI i))]) rfl ?_
            refine a_goto C dX11_lampsAheadOf_83 (tgt := 4) (by decide) ?_
            refine a_sub (lst2 := [(3, .int (nI (w + 1))), (2, .int (nI (g_ah r i w + 1))), (0, .ref (x_b G + 0)), (1, .int (nI i))]) [0, 1, 4, 5] rfl ?_
            refine a_to (lst2 := [(3, .int (nI ((w + 1)))), (2, .int (nI (g_ah r i ((w + 1))))), (0, .ref (x_b G + 0)), (1, .int (nI i))]) (st2 := []) (d2 := d) (by rw [g_ah, if_pos (Or.inl (x_rgt h30 (hr9 i hi9) (hr9 w hlt)))]) rfl rfl ?_
            exact ih (w + 1) (by omega) (by omega) 
          · skip
            refine a_iload_n C dX11_lampsAheadOf_55 1 rfl ?_
            refine a_iload_n C dX11_lampsAheadOf_56 4 rfl ?_
            refine a_icmp_ge C dX11_lampsAheadOf_57 (tgt := 64) (by decide) (fun h57 => ?_) (fun h57 => ?_)
            · skip
              have hno : ¬ (r w = r i ∧ w < i) := fun z => nI_ge z.2 (by omega) h57
              refine a_iconst C dX11_lampsAheadOf_64 (v := 0) (by decide) ?_
              refine a_istore C dX11_lampsAheadOf_65 (by decide) (lst2 := [(5, .int 0), (4, .int 1), (3, .int (nI w)), (2, .int (nI (g_ah r i w))), (0, .ref (x_b G + 0)), (1, .int (nI i))]) rfl ?_
              refine a_iload C dX11_lampsAheadOf_67 1 rfl ?_
              refine a_if_ne C dX11_lampsAheadOf_69 (tgt := 77) (by decide) (fun _ => ?_) (fun h => absurd h (by decide))
              refine a_iinc C dX11_lampsAheadOf_77 3 rfl (v := (nI (g_ah r i w + 1))) (x_inc (g_ah r i w)) (by decide) (lst2 := [(2, .int (nI (g_ah r i w + 1))), (5, .int 0), (4, .int 1), (3, .int (nI w)), (0, .ref (x_b G + 0)), (1, .int (nI i))]) rfl ?_
              refine a_iinc C dX11_lampsAheadOf_80 3 rfl (v := (nI (w + 1))) (x_inc w) (by decide) (lst2 := [(3, .int (nI (w + 1))), (2, .int (nI (g_ah r i w + 1))), (5, .int 0), (4, .int 1), (0, .ref (x_b G + 0)), (1, .int (nI i))]) rfl ?_
              refine a_goto C dX11_lampsAheadOf_83 (tgt := 4) (by decide) ?_
              refine a_sub (lst2 := [(3, .int (nI (w + 1))), (2, .int (nI (g_ah r i w + 1))), (0, .ref (x_b G + 0)), (1, .int (nI i))]) [0, 1, 4, 5] rfl ?_
              refine a_to (lst2 := [(3, .int (nI ((w + 1)))), (2, .int (nI (g_ah r i ((w + 1))))), (0, .ref (x_b G + 0)), (1, .int (nI i))]) (st2 := []) (d2 := d) (by rw [g_ah, if_pos (Or.inl (x_rgt h30 (hr9 i hi9) (hr9 w hlt)))]) rfl rfl ?_
              exact ih (w + 1) (by omega) (by omega) 
            · skip
              have hwi : w ≤ i := Nat.le_of_not_lt (fun z => h57 (nI_le (Nat.le_of_lt z) (by omega)))
              refine a_iconst C dX11_lampsAheadOf_60 (v := 1) (by decide) ?_
              refine a_goto C dX11_lampsAheadOf_61 (tgt := 65) (by decide) ?_
              refine a_istore C dX11_lampsAheadOf_65 (by decide) (lst2 := [(5, .int 1), (4, .int 1), (3, .int (nI w)), (2, .int (nI (g_ah r i w))), (0, .ref (x_b G + 0)), (1, .int (nI i))]) rfl ?_
              refine a_iload C dX11_lampsAheadOf_67 1 rfl ?_
              refine a_if_ne C dX11_lampsAheadOf_69 (tgt := 77) (by decide) (fun _ => ?_) (fun h => absurd h (by decide))
              refine a_iinc C dX11_lampsAheadOf_77 3 rfl (v := (nI (g_ah r i w + 1))) (x_inc (g_ah r i w)) (by decide) (lst2 := [(2, .int (nI (g_ah r i w + 1))), (5, .int 1), (4, .int 1), (3, .int (nI w)), (0, .ref (x_b G + 0)), (1, .int (nI i))]) rfl ?_
              refine a_iinc C dX11_lampsAheadOf_80 3 rfl (v := (nI (w + 1))) (x_inc w) (by decide) (lst2 := [(3, .int (nI (w + 1))), (2, .int (nI (g_ah r i w + 1))), (5, .int 1), (4, .int 1), (0, .ref (x_b G + 0)), (1, .int (nI i))]) rfl ?_
              refine a_goto C dX11_lampsAheadOf_83 (tgt := 4) (by decide) ?_
              refine a_sub (lst2 := [(3, .int (nI (w + 1))), (2, .int (nI (g_ah r i w + 1))), (0, .ref (x_b G + 0)), (1, .int (nI i))]) [0, 1, 4, 5] rfl ?_
              refine a_to (lst2 := [(3, .int (nI ((w + 1)))), (2, .int (nI (g_ah r i ((w + 1))))), (0, .ref (x_b G + 0)), (1, .int (nI i))]) (st2 := []) (d2 := d) (by rw [g_ah, if_pos (Or.inl (x_rgt h30 (hr9 i hi9) (hr9 w hlt)))]) rfl rfl ?_
              exact ih (w + 1) (by omega) (by omega) 
  refine a_sub (lst2 := [(3, .int 0), (2, .int 0), (0, .ref (x_b G + 0)), (1, .int (nI i))]) [0, 1, 2, 3] rfl ?_
  exact L4 (n + 1) 0 (by omega) (by omega) 

set_option maxHeartbeats 1000000 in
set_option maxRecDepth 100000 in
theorem c_F_lampAtRank (l : Launch) (G : xG) (d : xd) (n : Nat) (hn : d 2 0 = nI n) (h8 : n ≤ 8) (r : Nat → Nat) (hr9 : ∀ j, j < n → r j < 100000) (hv : ∀ j, j < n → d 167 j = nI (r j)) (x : Nat) (k9 : Nat) (hk9 : k9 < n) (hk1 : g_ah r k9 n = x) (hk0 : ∀ j, j < k9 → ¬ g_ah r j n = x)  : x_M G l yX11_lampAtRank wsX11_lampAtRank 2 0 0 [.ref (x_b G + 0), .int (nI x)] d (some (.int (nI k9))) d := by
  have hgx := g_ah_le r k9 n
  have iX11 : ∀ w ∈ u_ws RX11 TX11 13, w ∈ wsX11_lampAtRank := by decide +kernel
  have iX5 : ∀ w ∈ u_ws RX5 TX5 8, w ∈ wsX11_lampAtRank := by decide +kernel
  have iX9 : ∀ w ∈ u_ws RX9 TX9 3, w ∈ wsX11_lampAtRank := by decide +kernel
  refine x_start (cc := cX11_lampAtRank) (maxL := 3) (ret := (some .int)) (own := RX11) (by decide) rfl rfl (Nat.le_of_ble_eq_true rfl) (lst := [(0, .ref (x_b G + 0)), (1, .int (nI x))]) rfl ?_
  intro p e s m args below meth c C hr hlocks
  refine a_iconst C dX11_lampAtRank_0 (v := 0) (by decide) ?_
  refine a_istore_n C dX11_lampAtRank_1 (by decide) (lst2 := [(2, .int 0), (0, .ref (x_b G + 0)), (1, .int (nI x))]) rfl ?_
  have L2 : ∀ (j i : Nat), i ≤ k9 → k9 < i + j → Ab G p l e (x_rm 2 0 0) s m args below meth c 3 0 0 (MQ below (x_Q G (some (.int (nI k9))) d) args s 0 0 (x_A G)) 2 [(2, .int (nI i)), (0, .ref (x_b G + 0)), (1, .int (nI x))] [] d := by
    intro j
    induction j with
    | zero => intro i h1 h2; exact absurd h2 (by omega)
    | succ j ih =>
      intro i hi hj 
      have hgi := g_ah_le r i n
      refine a_iload_n C dX11_lampAtRank_2 0 rfl ?_
      refine a_aload_n C dX11_lampAtRank_3 1 rfl ?_
      refine a_getR C (k := 0) iX11 x_k0 rfl (j := 0) rfl (by decide) (by decide +kernel) dX11_lampAtRank_4 ?_
      refine a_getR C (k := 1) iX9 (x_sS0 x_isS_1) rfl (j := 0) rfl (by decide) (by decide +kernel) dX11_lampAtRank_7 ?_
      refine a_getI C (k := 2) iX5 (x_sS1 x_isS_1) rfl (j := 0) rfl (by decide) (by decide +kernel) dX11_lampAtRank_10 ?_
      refine a_top (y := (nI n)) hn ?_
      refine a_icmp_ge C dX11_lampAtRank_13 (tgt := 33) (by decide) (fun h => absurd h (nI_ge (by omega) (by omega))) (fun h13 => ?_)
      refine a_aload_n C dX11_lampAtRank_16 1 rfl ?_
      refine a_iload_n C dX11_lampAtRank_17 0 rfl ?_
      refine a_callV C (k := 0) (As := [.int (nI i)]) (rest := []) (c_F_lampsAheadOf l G d n hn h8 i (by omega) r hr9 hv) (cwV 1 C.1.2.2.2.2 gX11_lampAtRank_X11_lampsAheadOf rfl rfl rfl (by decide +kernel) ⟨Nat.le_of_ble_eq_true rfl, Nat.le_of_ble_eq_true rfl⟩) x_k0 (q := (RX11, TX11, 13)) rfl rfl rfl rfl (Nat.le_of_ble_eq_true rfl) dX11_lampAtRank_18 ⟨Nat.le_of_ble_eq_true rfl, Nat.le_of_ble_eq_true rfl⟩ ?_
      refine a_iload_n C dX11_lampAtRank_21 2 rfl ?_
      refine a_icmp_ne C dX11_lampAtRank_22 (tgt := 27) (by decide) (fun h22 => ?_) (fun h22 => ?_)
      · skip
        have hlt : i < k9 := Nat.lt_of_le_of_ne hi (fun z => h22 (by rw [z, hk1]))
        refine a_iinc C dX11_lampAtRank_27 0 rfl (v := (nI (i + 1))) (x_inc i) (by decide) (lst2 := [(2, .int (nI (i + 1))), (0, .ref (x_b G + 0)), (1, .int (nI x))]) rfl ?_
        refine a_goto C dX11_lampAtRank_30 (tgt := 2) (by decide) ?_
        refine a_sub (lst2 := [(2, .int (nI (i + 1))), (0, .ref (x_b G + 0)), (1, .int (nI x))]) [0, 1, 2] rfl ?_
        exact ih (i + 1) (by omega) (by omega) 
      · skip
        have e : i = k9 := x_eqk hi (fun z => hk0 i z ((nI_eq (by omega) (by omega)).mp h22))
        refine a_iload_n C dX11_lampAtRank_25 0 rfl ?_
        exact a_iret C hlocks hr dX11_lampAtRank_26 (by rw [e]) rfl
  refine a_sub (lst2 := [(2, .int 0), (0, .ref (x_b G + 0)), (1, .int (nI x))]) [0, 1, 2] rfl ?_
  exact L2 (k9 + 1) 0 (by omega) (by omega) 

set_option maxHeartbeats 1000000 in
set_option maxRecDepth 100000 in
theorem c_F_richestLamp_4 (l : Launch) (hfl : l.stackTraces = false) (G : xG) (d : xd) (x : Int32) (n : Nat) (hn : d 2 0 = nI n) (hx : ¬ (0 ≤ x ∧ x < nI n)) : x_X G l yX11_richestLamp wsX11_richestLamp 4 [.ref (x_b G + 0), .int x] d "java/util/NoSuchElementException" d := by
  refine x_startX (cc := cX11_richestLamp) (maxL := 3) (ret := (some .int)) (own := RX11) (by decide) rfl rfl (Nat.le_of_ble_eq_true rfl) (lst := [(0, .ref (x_b G + 0)), (1, .int x)]) rfl ?_
  intro p e s m args below meth c C hr hlocks
  refine a_aload_n C dX11_richestLamp_0 0 rfl ?_
  refine a_iload_n C dX11_richestLamp_1 1 rfl ?_
  exact a_callVX C hr hlocks (k := 0) (As := [.int x]) (rest := []) (c_F_requireRank_4 l hfl G d x n hn hx) (cwV 1 C.1.2.2.2.2 gX11_richestLamp_X11_requireRank rfl rfl rfl (by decide +kernel) ⟨Nat.le_of_ble_eq_true rfl, Nat.le_of_ble_eq_true rfl⟩) x_k0 (q := (RX11, TX11, 13)) rfl rfl rfl rfl (Nat.le_of_ble_eq_true rfl) dX11_richestLamp_2 (by decide) (by decide) (by decide) rfl

set_option maxHeartbeats 1000000 in
set_option maxRecDepth 100000 in
theorem c_F_longestLamp_4 (l : Launch) (hfl : l.stackTraces = false) (G : xG) (d : xd) (x : Int32) (n : Nat) (hn : d 2 0 = nI n) (hx : ¬ (0 ≤ x ∧ x < nI n)) : x_X G l yX11_longestLamp wsX11_longestLamp 4 [.ref (x_b G + 0), .int x] d "java/util/NoSuchElementException" d := by
  refine x_startX (cc := cX11_longestLamp) (maxL := 3) (ret := (some .int)) (own := RX11) (by decide) rfl rfl (Nat.le_of_ble_eq_true rfl) (lst := [(0, .ref (x_b G + 0)), (1, .int x)]) rfl ?_
  intro p e s m args below meth c C hr hlocks
  refine a_aload_n C dX11_longestLamp_0 0 rfl ?_
  refine a_iload_n C dX11_longestLamp_1 1 rfl ?_
  exact a_callVX C hr hlocks (k := 0) (As := [.int x]) (rest := []) (c_F_requireRank_4 l hfl G d x n hn hx) (cwV 1 C.1.2.2.2.2 gX11_longestLamp_X11_requireRank rfl rfl rfl (by decide +kernel) ⟨Nat.le_of_ble_eq_true rfl, Nat.le_of_ble_eq_true rfl⟩) x_k0 (q := (RX11, TX11, 13)) rfl rfl rfl rfl (Nat.le_of_ble_eq_true rfl) dX11_longestLamp_2 (by decide) (by decide) (by decide) rfl

theorem f_nf_cong {d d2 : xd} {o i : Nat} (h4 : d2 (o + 4) = d (o + 4)) (h6 : d2 (o + 6) = d (o + 6)) (h7 : d2 (o + 7) = d (o + 7)) : f_nf d2 o i = f_nf d o i := by
  unfold f_nf
  rw [h4, h6, h7]
set_option maxHeartbeats 1000000 in
set_option maxRecDepth 100000 in
theorem c_F_richestLamp (l : Launch) (G : xG) (d : xd) (n : Nat) (hn : d 2 0 = nI n) (h8 : n ≤ 8) (r : Nat → Nat) (hr9 : ∀ j, j < n → r j < 100000) (hv : ∀ j, j < n → d 9 j = nI (r j)) (x : Nat) (hx : x < n) (k9 : Nat) (hk9 : k9 < n) (hk1 : g_ah r k9 n = x) (hk0 : ∀ j, j < k9 → ¬ g_ah r j n = x) : x_M G l yX11_richestLamp wsX11_richestLamp 4 0 0 [.ref (x_b G + 0), .int (nI x)] d (some (.int (nI k9))) (x_r d 167 (f_fill (fun j => nI (r j)) (d 167) n)) := by
  have iX11 : ∀ w ∈ u_ws RX11 TX11 13, w ∈ wsX11_richestLamp := by decide +kernel
  have iX5 : ∀ w ∈ u_ws RX5 TX5 8, w ∈ wsX11_richestLamp := by decide +kernel
  have iX9 : ∀ w ∈ u_ws RX9 TX9 3, w ∈ wsX11_richestLamp := by decide +kernel
  refine x_start (cc := cX11_richestLamp) (maxL := 3) (ret := (some .int)) (own := RX11) (by decide) rfl rfl (Nat.le_of_ble_eq_true rfl) (lst := [(0, .ref (x_b G + 0)), (1, .int (nI x))]) rfl ?_
  intro p e s m args below meth c C hr hlocks
  refine a_aload_n C dX11_richestLamp_0 0 rfl ?_
  refine a_iload_n C dX11_richestLamp_1 1 rfl ?_
  refine a_callV C (k := 0) (As := [.int (nI x)]) (rest := []) (c_F_requireRank l G d n hn h8 x hx) (cwV 1 C.1.2.2.2.2 gX11_richestLamp_X11_requireRank rfl rfl rfl (by decide +kernel) ⟨Nat.le_of_ble_eq_true rfl, Nat.le_of_ble_eq_true rfl⟩) x_k0 (q := (RX11, TX11, 13)) rfl rfl rfl rfl (Nat.le_of_ble_eq_true rfl) dX11_richestLamp_2 ⟨Nat.le_of_ble_eq_true rfl, Nat.le_of_ble_eq_true rfl⟩ ?_
  refine a_iconst C dX11_richestLamp_5 (v := 0) (by decide) ?_
  refine a_istore_n C dX11_richestLamp_6 (by decide) (lst2 := [(2, .int 0), (0, .ref (x_b G + 0)), (1, .int (nI x))]) rfl ?_
  have L7 : ∀ (j i : Nat), i ≤ n → n < i + j → Ab G p l e (x_rm 4 0 0) s m args below meth c 3 0 0 (MQ below (x_Q G (some (.int (nI k9))) (x_r d 167 (f_fill (fun j => nI (r j)) (d 167) n))) args s 0 0 (x_A G)) 7 [(2, .int (nI i)), (0, .ref (x_b G + 0)), (1, .int (nI x))] [] (x_r d 167 (f_fill (fun j => nI (r j)) (d 167) i)) := by
    intro j
    induction j with
    | zero => intro i h1 h2; exact absurd h2 (by omega)
    | succ j ih =>
      intro i hi hj 
      refine a_iload_n C dX11_richestLamp_7 0 rfl ?_
      refine a_aload_n C dX11_richestLamp_8 1 rfl ?_
      refine a_getR C (k := 0) iX11 x_k0 rfl (j := 0) rfl (by decide) (by decide +kernel) dX11_richestLamp_9 ?_
      refine a_getR C (k := 1) iX9 (x_sS0 x_isS_1) rfl (j := 0) rfl (by decide) (by decide +kernel) dX11_richestLamp_12 ?_
      refine a_getI C (k := 2) iX5 (x_sS1 x_isS_1) rfl (j := 0) rfl (by decide) (by decide +kernel) dX11_richestLamp_15 ?_
      refine a_top (y := (d 2 0)) (by first | rw [x_r_ne2 (by omega)] | rfl) ?_
      refine a_top (y := (nI n)) (by first | exact hn | (rw [x_r_ne2 (by omega)]; exact hn)) ?_
      refine a_icmp_ge C dX11_richestLamp_18 (tgt := 45) (by decide) (fun h18 => ?_) (fun h18 => ?_)
      · skip
        have e := x_ge h18 hi (by omega)
        have e9 := e.symm
        subst e9
        clear e
        refine a_aload_n C dX11_richestLamp_45 1 rfl ?_
        refine a_iload_n C dX11_richestLamp_46 2 rfl ?_
        refine a_callV C (k := 0) (As := [.int (nI x)]) (rest := []) (c_F_lampAtRank l G (x_r d 167 (f_fill (fun j => nI (r j)) (d 167) n)) n (by rw [x_r_ne2 (by omega)]; exact hn) h8 r hr9 (fun j hj => by rw [x_r_same]; unfold f_fill; rw [if_pos hj]) x k9 hk9 hk1 hk0) (cwV 1 C.1.2.2.2.2 gX11_richestLamp_X11_lampAtRank rfl rfl rfl (by decide +kernel) ⟨Nat.le_of_ble_eq_true rfl, Nat.le_of_ble_eq_true rfl⟩) x_k0 (q := (RX11, TX11, 13)) rfl rfl rfl rfl (Nat.le_of_ble_eq_true rfl) dX11_richestLamp_47 ⟨Nat.le_of_ble_eq_true rfl, Nat.le_of_ble_eq_true rfl⟩ ?_
        exact a_iret C hlocks hr dX11_richestLamp_50 rfl rfl
      · skip
        have hlt := x_nge h18 hi
        refine a_aload_n C dX11_richestLamp_21 1 rfl ?_
        refine a_getR C (k := 0) iX11 x_k0 rfl (j := 8) rfl (by decide) (by decide +kernel) dX11_richestLamp_22 ?_
        refine a_iload_n C dX11_richestLamp_25 0 rfl ?_
        refine a_aload_n C dX11_richestLamp_26 1 rfl ?_
        refine a_getR C (k := 0) iX11 x_k0 rfl (j := 0) rfl (by decide) (by decide +kernel) dX11_richestLamp_27 ?_
        refine a_getR C (k := 1) iX9 (x_sS0 x_isS_1) rfl (j := 0) rfl (by decide) (by decide +kernel) dX11_richestLamp_30 ?_
        refine a_getR C (k := 2) iX5 (x_sS1 x_isS_1) rfl (j := 7) rfl (by decide) (by decide +kernel) dX11_richestLamp_33 ?_
        refine a_iload_n C dX11_richestLamp_36 0 rfl ?_
        refine a_ialdN C (k := 9) (x_sS8 x_isS_1) (i := i) rfl (by omega) (by first | decide | omega) dX11_richestLamp_37 ?_
        refine a_top (y := (d 9 i)) (by first | rw [x_r_ne2 (by omega)] | rfl) ?_
        refine a_top (y := (nI (r i))) (hv i hlt) ?_
        refine a_iastN C (k := 167) x_k167 (i := i) rfl (by omega) (by first | decide | omega) dX11_richestLamp_38 ?_
        refine a_iinc C dX11_richestLamp_39 0 rfl (v := (nI (i + 1))) (x_inc i) (by decide) (lst2 := [(2, .int (nI (i + 1))), (0, .ref (x_b G + 0)), (1, .int (nI x))]) rfl ?_
        refine a_goto C dX11_richestLamp_42 (tgt := 7) (by decide) ?_
        refine a_sub (lst2 := [(2, .int (nI (i + 1))), (0, .ref (x_b G + 0)), (1, .int (nI x))]) [0, 1, 2] rfl ?_
        refine a_to (lst2 := [(2, .int (nI ((i + 1)))), (0, .ref (x_b G + 0)), (1, .int (nI x))]) (st2 := []) (d2 := x_r d 167 (f_fill (fun j => nI (r j)) (d 167) ((i + 1)))) rfl rfl (x_p_r2 (by rw [← f_fill_s])).symm ?_
        exact ih (i + 1) (by omega) (by omega) 
  refine a_sub (lst2 := [(2, .int 0), (0, .ref (x_b G + 0)), (1, .int (nI x))]) [0, 1, 2] rfl ?_
  refine a_toD (d2 := x_r d 167 (f_fill (fun j => nI (r j)) (d 167) 0)) (by rw [f_fill_0]; exact x_r_id d 167) ?_
  exact L7 (n + 1) 0 (by omega) (by omega)

set_option maxHeartbeats 1000000 in
set_option maxRecDepth 100000 in
theorem c_F_longestLamp (l : Launch) (G : xG) (d : xd) (n : Nat) (hn : d 2 0 = nI n) (h8 : n ≤ 8) (r : Nat → Nat) (hr9 : ∀ j, j < n → r j < 100000) (hv : ∀ j, j < n → f_nf d 1 j = nI (r j)) (x : Nat) (hx : x < n) (k9 : Nat) (hk9 : k9 < n) (hk1 : g_ah r k9 n = x) (hk0 : ∀ j, j < k9 → ¬ g_ah r j n = x) : x_M G l yX11_longestLamp wsX11_longestLamp 4 0 0 [.ref (x_b G + 0), .int (nI x)] d (some (.int (nI k9))) (x_r d 167 (f_fill (fun j => nI (r j)) (d 167) n)) := by
  have iX11 : ∀ w ∈ u_ws RX11 TX11 13, w ∈ wsX11_longestLamp := by decide +kernel
  have iX5 : ∀ w ∈ u_ws RX5 TX5 8, w ∈ wsX11_longestLamp := by decide +kernel
  have iX9 : ∀ w ∈ u_ws RX9 TX9 3, w ∈ wsX11_longestLamp := by decide +kernel
  refine x_start (cc := cX11_longestLamp) (maxL := 3) (ret := (some .int)) (own := RX11) (by decide) rfl rfl (Nat.le_of_ble_eq_true rfl) (lst := [(0, .ref (x_b G + 0)), (1, .int (nI x))]) rfl ?_
  intro p e s m args below meth c C hr hlocks
  refine a_aload_n C dX11_longestLamp_0 0 rfl ?_
  refine a_iload_n C dX11_longestLamp_1 1 rfl ?_
  refine a_callV C (k := 0) (As := [.int (nI x)]) (rest := []) (c_F_requireRank l G d n hn h8 x hx) (cwV 1 C.1.2.2.2.2 gX11_longestLamp_X11_requireRank rfl rfl rfl (by decide +kernel) ⟨Nat.le_of_ble_eq_true rfl, Nat.le_of_ble_eq_true rfl⟩) x_k0 (q := (RX11, TX11, 13)) rfl rfl rfl rfl (Nat.le_of_ble_eq_true rfl) dX11_longestLamp_2 ⟨Nat.le_of_ble_eq_true rfl, Nat.le_of_ble_eq_true rfl⟩ ?_
  refine a_iconst C dX11_longestLamp_5 (v := 0) (by decide) ?_
  refine a_istore_n C dX11_longestLamp_6 (by decide) (lst2 := [(2, .int 0), (0, .ref (x_b G + 0)), (1, .int (nI x))]) rfl ?_
  have L7 : ∀ (j i : Nat), i ≤ n → n < i + j → Ab G p l e (x_rm 4 0 0) s m args below meth c 3 0 0 (MQ below (x_Q G (some (.int (nI k9))) (x_r d 167 (f_fill (fun j => nI (r j)) (d 167) n))) args s 0 0 (x_A G)) 7 [(2, .int (nI i)), (0, .ref (x_b G + 0)), (1, .int (nI x))] [] (x_r d 167 (f_fill (fun j => nI (r j)) (d 167) i)) := by
    intro j
    induction j with
    | zero => intro i h1 h2; exact absurd h2 (by omega)
    | succ j ih =>
      intro i hi hj 
      refine a_iload_n C dX11_longestLamp_7 0 rfl ?_
      refine a_aload_n C dX11_longestLamp_8 1 rfl ?_
      refine a_getR C (k := 0) iX11 x_k0 rfl (j := 0) rfl (by decide) (by decide +kernel) dX11_longestLamp_9 ?_
      refine a_getR C (k := 1) iX9 (x_sS0 x_isS_1) rfl (j := 0) rfl (by decide) (by decide +kernel) dX11_longestLamp_12 ?_
      refine a_getI C (k := 2) iX5 (x_sS1 x_isS_1) rfl (j := 0) rfl (by decide) (by decide +kernel) dX11_longestLamp_15 ?_
      refine a_top (y := (d 2 0)) (by first | rw [x_r_ne2 (by omega)] | rfl) ?_
      refine a_top (y := (nI n)) (by first | exact hn | (rw [x_r_ne2 (by omega)]; exact hn)) ?_
      refine a_icmp_ge C dX11_longestLamp_18 (tgt := 44) (by decide) (fun h18 => ?_) (fun h18 => ?_)
      · skip
        have e := x_ge h18 hi (by omega)
        have e9 := e.symm
        subst e9
        clear e
        refine a_aload_n C dX11_longestLamp_44 1 rfl ?_
        refine a_iload_n C dX11_longestLamp_45 2 rfl ?_
        refine a_callV C (k := 0) (As := [.int (nI x)]) (rest := []) (c_F_lampAtRank l G (x_r d 167 (f_fill (fun j => nI (r j)) (d 167) n)) n (by rw [x_r_ne2 (by omega)]; exact hn) h8 r hr9 (fun j hj => by rw [x_r_same]; unfold f_fill; rw [if_pos hj]) x k9 hk9 hk1 hk0) (cwV 1 C.1.2.2.2.2 gX11_longestLamp_X11_lampAtRank rfl rfl rfl (by decide +kernel) ⟨Nat.le_of_ble_eq_true rfl, Nat.le_of_ble_eq_true rfl⟩) x_k0 (q := (RX11, TX11, 13)) rfl rfl rfl rfl (Nat.le_of_ble_eq_true rfl) dX11_longestLamp_46 ⟨Nat.le_of_ble_eq_true rfl, Nat.le_of_ble_eq_true rfl⟩ ?_
        exact a_iret C hlocks hr dX11_longestLamp_49 rfl rfl
      · skip
        have hlt := x_nge h18 hi
        refine a_aload_n C dX11_longestLamp_21 1 rfl ?_
        refine a_getR C (k := 0) iX11 x_k0 rfl (j := 8) rfl (by decide) (by decide +kernel) dX11_longestLamp_22 ?_
        refine a_iload_n C dX11_longestLamp_25 0 rfl ?_
        refine a_aload_n C dX11_longestLamp_26 1 rfl ?_
        refine a_getR C (k := 0) iX11 x_k0 rfl (j := 0) rfl (by decide) (by decide +kernel) dX11_longestLamp_27 ?_
        refine a_getR C (k := 1) iX9 (x_sS0 x_isS_1) rfl (j := 0) rfl (by decide) (by decide +kernel) dX11_longestLamp_30 ?_
        refine a_iload_n C dX11_longestLamp_33 0 rfl ?_
        refine a_callV C (k := 2) (As := [.int (nI i)]) (rest := [.int (nI i), .ref (x_b G + 167)]) (c_X5_nightsByFormula l G (x_r d 167 (f_fill (fun j => nI (r j)) (d 167) i)) 1 i x_isS_1 (by omega)) (cwV 1 C.1.2.2.2.2 gX11_longestLamp_X5_nightsByFormula rfl rfl rfl (by decide +kernel) ⟨Nat.le_of_ble_eq_true rfl, Nat.le_of_ble_eq_true rfl⟩) (x_sS1 x_isS_1) (q := (RX5, TX5, 8)) rfl rfl rfl rfl (Nat.le_of_ble_eq_true rfl) dX11_longestLamp_34 ⟨Nat.le_of_ble_eq_true rfl, Nat.le_of_ble_eq_true rfl⟩ ?_
        refine a_top (y := (nI (r i))) ((f_nf_cong (by rw [x_r_ne2 (by omega)]) (by rw [x_r_ne2 (by omega)]) (by rw [x_r_ne2 (by omega)])).trans (hv i hlt)) ?_
        refine a_iastN C (k := 167) x_k167 (i := i) rfl (by omega) (by first | decide | omega) dX11_longestLamp_37 ?_
        refine a_iinc C dX11_longestLamp_38 0 rfl (v := (nI (i + 1))) (x_inc i) (by decide) (lst2 := [(2, .int (nI (i + 1))), (0, .ref (x_b G + 0)), (1, .int (nI x))]) rfl ?_
        refine a_goto C dX11_longestLamp_41 (tgt := 7) (by decide) ?_
        refine a_sub (lst2 := [(2, .int (nI (i + 1))), (0, .ref (x_b G + 0)), (1, .int (nI x))]) [0, 1, 2] rfl ?_
        refine a_to (lst2 := [(2, .int (nI ((i + 1)))), (0, .ref (x_b G + 0)), (1, .int (nI x))]) (st2 := []) (d2 := x_r d 167 (f_fill (fun j => nI (r j)) (d 167) ((i + 1)))) rfl rfl (x_p_r2 (by rw [← f_fill_s])).symm ?_
        exact ih (i + 1) (by omega) (by omega) 
  refine a_sub (lst2 := [(2, .int 0), (0, .ref (x_b G + 0)), (1, .int (nI x))]) [0, 1, 2] rfl ?_
  refine a_toD (d2 := x_r d 167 (f_fill (fun j => nI (r j)) (d 167) 0)) (by rw [f_fill_0]; exact x_r_id d 167) ?_
  exact L7 (n + 1) 0 (by omega) (by omega)

set_option maxHeartbeats 1000000 in
set_option maxRecDepth 100000 in
theorem c_F_execute_2 (l : Launch) (hfl : l.stackTraces = false) (G : xG) (d : xd) (dp : xd) (hpar : x_M G l yX3_parse wsX3_parse 8 0 0 [.ref (x_b G + 168)] d (some (.int 0)) dp) (e9 : Nat) (hpos : dp 168 2 = nI e9) : x_X G l yX11_execute wsX11_execute 10 [.ref (x_b G + 0)] d "java/lang/IllegalArgumentException" (x_p (x_p dp 168 1 0) 0 11 (nI e9)) := by
  have iX11 : ∀ w ∈ u_ws RX11 TX11 13, w ∈ wsX11_execute := by decide +kernel
  have iX3 : ∀ w ∈ u_ws RX3 TX3 7, w ∈ wsX11_execute := by decide +kernel
  refine x_startX (cc := cX11_execute) (maxL := 3) (ret := (some .int)) (own := RX11) (by decide) rfl rfl (Nat.le_of_ble_eq_true rfl) (lst := [(0, .ref (x_b G + 0))]) rfl ?_
  intro p e s m args below meth c C hr hlocks
  refine a_aload_n C dX11_execute_0 0 rfl ?_
  refine a_getR C (k := 0) iX11 x_k0 rfl (j := 9) rfl (by decide) (by decide +kernel) dX11_execute_1 ?_
  refine a_callV C (k := 168) (As := []) (rest := []) (hpar) (cwV 0 C.1.2.2.2.2 gX11_execute_X3_parse rfl rfl rfl (by decide +kernel) ⟨Nat.le_of_ble_eq_true rfl, Nat.le_of_ble_eq_true rfl⟩) x_k168 (q := (RX3, TX3, 7)) rfl rfl rfl rfl (Nat.le_of_ble_eq_true rfl) dX11_execute_4 ⟨Nat.le_of_ble_eq_true rfl, Nat.le_of_ble_eq_true rfl⟩ ?_
  refine a_istore_n C dX11_execute_7 (by decide) (lst2 := [(1, .int 0), (0, .ref (x_b G + 0))]) rfl ?_
  refine a_aload_n C dX11_execute_8 1 rfl ?_
  refine a_getR C (k := 0) iX11 x_k0 rfl (j := 9) rfl (by decide) (by decide +kernel) dX11_execute_9 ?_
  refine a_iconst C dX11_execute_12 (v := 0) (by decide) ?_
  refine a_putI C (k := 168) iX3 tyX3_ok nmX3 x_k168 rfl (j := 1) rfl (by decide) (by decide +kernel) rfl (ty := .int) (by decide +kernel) rfl rfl dX11_execute_13 ?_
  refine a_iload_n C dX11_execute_16 0 rfl ?_
  refine a_if_ne C dX11_execute_17 (tgt := 42) (by decide) (fun h => absurd h (by decide)) (fun _ => ?_)
  refine a_aload_n C dX11_execute_20 1 rfl ?_
  refine a_aload_n C dX11_execute_21 1 rfl ?_
  refine a_getR C (k := 0) iX11 x_k0 rfl (j := 9) rfl (by decide) (by decide +kernel) dX11_execute_22 ?_
  refine a_getI C (k := 168) iX3 x_k168 rfl (j := 2) rfl (by decide) (by decide +kernel) dX11_execute_25 ?_
  refine a_top (y := (dp 168 2)) (by first | rw [x_p_row (by omega)] | rfl) ?_
  refine a_top (y := (nI e9)) hpos ?_
  refine a_putI C (k := 0) iX11 tyX11_ok nmX11 x_k0 rfl (j := 11) rfl (by decide) (by decide +kernel) rfl (ty := .int) (by decide +kernel) rfl rfl dX11_execute_28 ?_
  exact a_throw C hr hlocks hfl (is := 346) (cls := "java/lang/IllegalArgumentException") (ic := 266) (ik := 262) (text := "the text is malformed") (by decide) rfl (by decide +kernel) (by decide +kernel) (fun w hw => List.mem_cons_of_mem _ (List.mem_append_left _ (List.mem_append_left _ (List.mem_append_right _ hw)))) dX11_execute_31 dX11_execute_34 dX11_execute_35 dX11_execute_38 dX11_execute_41 (Nat.le_of_ble_eq_true rfl) (Nat.le_of_ble_eq_true rfl) (by decide) (by decide) (rfl)

set_option maxHeartbeats 1000000 in
set_option maxRecDepth 100000 in
theorem c_F_execute_3 (l : Launch) (hfl : l.stackTraces = false) (G : xG) (d : xd) (dp : xd) (hpar : x_M G l yX3_parse wsX3_parse 8 0 0 [.ref (x_b G + 168)] d (some (.int 1)) dp) (dq : xd) (k9 c9 : Nat) (hper : x_M G l yX11_performCommands wsX11_performCommands 7 0 0 [.ref (x_b G + 0)] (f_cps (x_p dp 168 1 0) 15 1) (some (.int (nI k9))) dq) (hcm : dq 168 3 = nI c9) (hc9 : c9 ≤ 15) (hk : k9 < c9) : x_X G l yX11_execute wsX11_execute 10 [.ref (x_b G + 0)] d "java/lang/IllegalStateException" (x_p (f_cps dq 1 15) 0 12 (nI k9)) := by
  have iX11 : ∀ w ∈ u_ws RX11 TX11 13, w ∈ wsX11_execute := by decide +kernel
  have iX3 : ∀ w ∈ u_ws RX3 TX3 7, w ∈ wsX11_execute := by decide +kernel
  refine x_startX (cc := cX11_execute) (maxL := 3) (ret := (some .int)) (own := RX11) (by decide) rfl rfl (Nat.le_of_ble_eq_true rfl) (lst := [(0, .ref (x_b G + 0))]) rfl ?_
  intro p e s m args below meth c C hr hlocks
  refine a_aload_n C dX11_execute_0 0 rfl ?_
  refine a_getR C (k := 0) iX11 x_k0 rfl (j := 9) rfl (by decide) (by decide +kernel) dX11_execute_1 ?_
  refine a_callV C (k := 168) (As := []) (rest := []) (hpar) (cwV 0 C.1.2.2.2.2 gX11_execute_X3_parse rfl rfl rfl (by decide +kernel) ⟨Nat.le_of_ble_eq_true rfl, Nat.le_of_ble_eq_true rfl⟩) x_k168 (q := (RX3, TX3, 7)) rfl rfl rfl rfl (Nat.le_of_ble_eq_true rfl) dX11_execute_4 ⟨Nat.le_of_ble_eq_true rfl, Nat.le_of_ble_eq_true rfl⟩ ?_
  refine a_istore_n C dX11_execute_7 (by decide) (lst2 := [(1, .int 1), (0, .ref (x_b G + 0))]) rfl ?_
  refine a_aload_n C dX11_execute_8 1 rfl ?_
  refine a_getR C (k := 0) iX11 x_k0 rfl (j := 9) rfl (by decide) (by decide +kernel) dX11_execute_9 ?_
  refine a_iconst C dX11_execute_12 (v := 0) (by decide) ?_
  refine a_putI C (k := 168) iX3 tyX3_ok nmX3 x_k168 rfl (j := 1) rfl (by decide) (by decide +kernel) rfl (ty := .int) (by decide +kernel) rfl rfl dX11_execute_13 ?_
  refine a_iload_n C dX11_execute_16 0 rfl ?_
  refine a_if_ne C dX11_execute_17 (tgt := 42) (by decide) (fun _ => ?_) (fun h => absurd h (by decide))
  refine a_aload_n C dX11_execute_42 1 rfl ?_
  refine a_getR C (k := 0) iX11 x_k0 rfl (j := 1) rfl (by decide) (by decide +kernel) dX11_execute_43 ?_
  refine a_aload_n C dX11_execute_46 1 rfl ?_
  refine a_getR C (k := 0) iX11 x_k0 rfl (j := 0) rfl (by decide) (by decide +kernel) dX11_execute_47 ?_
  refine a_callV C (k := 15) (As := [.ref (x_b G + 1)]) (rest := []) (c_X9_copyFrom l G (x_p dp 168 1 0) 15 1 x_isS_15 x_isS_1 (by omega)) (cwV 1 C.1.2.2.2.2 gX11_execute_X9_copyFrom rfl rfl rfl (by decide +kernel) ⟨Nat.le_of_ble_eq_true rfl, Nat.le_of_ble_eq_true rfl⟩) (x_sS0 x_isS_15) (q := (RX9, TX9, 3)) rfl rfl rfl rfl (Nat.le_of_ble_eq_true rfl) dX11_execute_50 ⟨Nat.le_of_ble_eq_true rfl, Nat.le_of_ble_eq_true rfl⟩ ?_
  refine a_aload_n C dX11_execute_53 1 rfl ?_
  refine a_callV C (k := 0) (As := []) (rest := []) (hper) (cwV 0 C.1.2.2.2.2 gX11_execute_X11_performCommands rfl rfl rfl (by decide +kernel) ⟨Nat.le_of_ble_eq_true rfl, Nat.le_of_ble_eq_true rfl⟩) x_k0 (q := (RX11, TX11, 13)) rfl rfl rfl rfl (Nat.le_of_ble_eq_true rfl) dX11_execute_54 ⟨Nat.le_of_ble_eq_true rfl, Nat.le_of_ble_eq_true rfl⟩ ?_
  refine a_istore_n C dX11_execute_57 (by decide) (lst2 := [(2, .int (nI k9)), (1, .int 1), (0, .ref (x_b G + 0))]) rfl ?_
  refine a_iload_n C dX11_execute_58 0 rfl ?_
  refine a_aload_n C dX11_execute_59 2 rfl ?_
  refine a_getR C (k := 0) iX11 x_k0 rfl (j := 9) rfl (by decide) (by decide +kernel) dX11_execute_60 ?_
  refine a_getI C (k := 168) iX3 x_k168 rfl (j := 3) rfl (by decide) (by decide +kernel) dX11_execute_63 ?_
  refine a_top (y := (nI c9)) hcm ?_
  refine a_icmp_ge C dX11_execute_66 (tgt := 96) (by decide) (fun h => absurd h (nI_ge hk (by omega))) (fun h66 => ?_)
  refine a_aload_n C dX11_execute_69 2 rfl ?_
  refine a_getR C (k := 0) iX11 x_k0 rfl (j := 0) rfl (by decide) (by decide +kernel) dX11_execute_70 ?_
  refine a_aload_n C dX11_execute_73 2 rfl ?_
  refine a_getR C (k := 0) iX11 x_k0 rfl (j := 1) rfl (by decide) (by decide +kernel) dX11_execute_74 ?_
  refine a_callV C (k := 1) (As := [.ref (x_b G + 15)]) (rest := []) (c_X9_copyFrom l G dq 1 15 x_isS_1 x_isS_15 (by omega)) (cwV 1 C.1.2.2.2.2 gX11_execute_X9_copyFrom rfl rfl rfl (by decide +kernel) ⟨Nat.le_of_ble_eq_true rfl, Nat.le_of_ble_eq_true rfl⟩) (x_sS0 x_isS_1) (q := (RX9, TX9, 3)) rfl rfl rfl rfl (Nat.le_of_ble_eq_true rfl) dX11_execute_77 ⟨Nat.le_of_ble_eq_true rfl, Nat.le_of_ble_eq_true rfl⟩ ?_
  refine a_aload_n C dX11_execute_80 2 rfl ?_
  refine a_iload_n C dX11_execute_81 0 rfl ?_
  refine a_putI C (k := 0) iX11 tyX11_ok nmX11 x_k0 rfl (j := 12) rfl (by decide) (by decide +kernel) rfl (ty := .int) (by decide +kernel) rfl rfl dX11_execute_82 ?_
  exact a_throw C hr hlocks hfl (is := 357) (cls := "java/lang/IllegalStateException") (ic := 334) (ik := 330) (text := "a command failed") (by decide) rfl (by decide +kernel) (by decide +kernel) (fun w hw => List.mem_cons_of_mem _ (List.mem_append_left _ (List.mem_append_right _ hw))) dX11_execute_85 dX11_execute_88 dX11_execute_89 dX11_execute_92 dX11_execute_95 (Nat.le_of_ble_eq_true rfl) (Nat.le_of_ble_eq_true rfl) (by decide) (by decide) (rfl)

set_option maxHeartbeats 1000000 in
set_option maxRecDepth 100000 in
theorem c_F_execute (l : Launch) (G : xG) (d : xd) (dp : xd) (hpar : x_M G l yX3_parse wsX3_parse 8 0 0 [.ref (x_b G + 168)] d (some (.int 1)) dp) (dq : xd) (k9 c9 : Nat) (hper : x_M G l yX11_performCommands wsX11_performCommands 7 0 0 [.ref (x_b G + 0)] (f_cps (x_p dp 168 1 0) 15 1) (some (.int (nI k9))) dq) (hcm : dq 168 3 = nI c9) (hc9 : c9 ≤ 15) (hk : c9 ≤ k9) (hk9 : k9 < 100) (q z : Nat) (hq : dq 43 1 = nI q) (hz : dq 43 0 = nI z) (q8 : q < 8) (z8 : z ≤ 8) : x_M G l yX11_execute wsX11_execute 10 0 0 [.ref (x_b G + 0)] d (some (.int (nI k9))) (f_rem dq 15 q z) := by
  have iX11 : ∀ w ∈ u_ws RX11 TX11 13, w ∈ wsX11_execute := by decide +kernel
  have iX3 : ∀ w ∈ u_ws RX3 TX3 7, w ∈ wsX11_execute := by decide +kernel
  refine x_start (cc := cX11_execute) (maxL := 3) (ret := (some .int)) (own := RX11) (by decide) rfl rfl (Nat.le_of_ble_eq_true rfl) (lst := [(0, .ref (x_b G + 0))]) rfl ?_
  intro p e s m args below meth c C hr hlocks
  refine a_aload_n C dX11_execute_0 0 rfl ?_
  refine a_getR C (k := 0) iX11 x_k0 rfl (j := 9) rfl (by decide) (by decide +kernel) dX11_execute_1 ?_
  refine a_callV C (k := 168) (As := []) (rest := []) (hpar) (cwV 0 C.1.2.2.2.2 gX11_execute_X3_parse rfl rfl rfl (by decide +kernel) ⟨Nat.le_of_ble_eq_true rfl, Nat.le_of_ble_eq_true rfl⟩) x_k168 (q := (RX3, TX3, 7)) rfl rfl rfl rfl (Nat.le_of_ble_eq_true rfl) dX11_execute_4 ⟨Nat.le_of_ble_eq_true rfl, Nat.le_of_ble_eq_true rfl⟩ ?_
  refine a_istore_n C dX11_execute_7 (by decide) (lst2 := [(1, .int 1), (0, .ref (x_b G + 0))]) rfl ?_
  refine a_aload_n C dX11_execute_8 1 rfl ?_
  refine a_getR C (k := 0) iX11 x_k0 rfl (j := 9) rfl (by decide) (by decide +kernel) dX11_execute_9 ?_
  refine a_iconst C dX11_execute_12 (v := 0) (by decide) ?_
  refine a_putI C (k := 168) iX3 tyX3_ok nmX3 x_k168 rfl (j := 1) rfl (by decide) (by decide +kernel) rfl (ty := .int) (by decide +kernel) rfl rfl dX11_execute_13 ?_
  refine a_iload_n C dX11_execute_16 0 rfl ?_
  refine a_if_ne C dX11_execute_17 (tgt := 42) (by decide) (fun _ => ?_) (fun h => absurd h (by decide))
  refine a_aload_n C dX11_execute_42 1 rfl ?_
  refine a_getR C (k := 0) iX11 x_k0 rfl (j := 1) rfl (by decide) (by decide +kernel) dX11_execute_43 ?_
  refine a_aload_n C dX11_execute_46 1 rfl ?_
  refine a_getR C (k := 0) iX11 x_k0 rfl (j := 0) rfl (by decide) (by decide +kernel) dX11_execute_47 ?_
  refine a_callV C (k := 15) (As := [.ref (x_b G + 1)]) (rest := []) (c_X9_copyFrom l G (x_p dp 168 1 0) 15 1 x_isS_15 x_isS_1 (by omega)) (cwV 1 C.1.2.2.2.2 gX11_execute_X9_copyFrom rfl rfl rfl (by decide +kernel) ⟨Nat.le_of_ble_eq_true rfl, Nat.le_of_ble_eq_true rfl⟩) (x_sS0 x_isS_15) (q := (RX9, TX9, 3)) rfl rfl rfl rfl (Nat.le_of_ble_eq_true rfl) dX11_execute_50 ⟨Nat.le_of_ble_eq_true rfl, Nat.le_of_ble_eq_true rfl⟩ ?_
  refine a_aload_n C dX11_execute_53 1 rfl ?_
  refine a_callV C (k := 0) (As := []) (rest := []) (hper) (cwV 0 C.1.2.2.2.2 gX11_execute_X11_performCommands rfl rfl rfl (by decide +kernel) ⟨Nat.le_of_ble_eq_true rfl, Nat.le_of_ble_eq_true rfl⟩) x_k0 (q := (RX11, TX11, 13)) rfl rfl rfl rfl (Nat.le_of_ble_eq_true rfl) dX11_execute_54 ⟨Nat.le_of_ble_eq_true rfl, Nat.le_of_ble_eq_true rfl⟩ ?_
  refine a_istore_n C dX11_execute_57 (by decide) (lst2 := [(2, .int (nI k9)), (1, .int 1), (0, .ref (x_b G + 0))]) rfl ?_
  refine a_iload_n C dX11_execute_58 0 rfl ?_
  refine a_aload_n C dX11_execute_59 2 rfl ?_
  refine a_getR C (k := 0) iX11 x_k0 rfl (j := 9) rfl (by decide) (by decide +kernel) dX11_execute_60 ?_
  refine a_getI C (k := 168) iX3 x_k168 rfl (j := 3) rfl (by decide) (by decide +kernel) dX11_execute_63 ?_
  refine a_top (y := (nI c9)) hcm ?_
  refine a_icmp_ge C dX11_execute_66 (tgt := 96) (by decide) (fun h66 => ?_) (fun h => False.elim (h (nI_le hk (by omega))))
  refine a_aload_n C dX11_execute_96 2 rfl ?_
  refine a_getR C (k := 0) iX11 x_k0 rfl (j := 4) rfl (by decide) (by decide +kernel) dX11_execute_97 ?_
  refine a_aload_n C dX11_execute_100 2 rfl ?_
  refine a_getR C (k := 0) iX11 x_k0 rfl (j := 1) rfl (by decide) (by decide +kernel) dX11_execute_101 ?_
  refine a_callV C (k := 43) (As := [.ref (x_b G + 15)]) (rest := []) (c_X4_remember l G dq 15 x_isS_15 (by omega) q z hq hz q8 z8) (cwV 1 C.1.2.2.2.2 gX11_execute_X4_remember rfl rfl rfl (by decide +kernel) ⟨Nat.le_of_ble_eq_true rfl, Nat.le_of_ble_eq_true rfl⟩) x_k43 (q := (RX4, TX4, 3)) rfl rfl rfl rfl (Nat.le_of_ble_eq_true rfl) dX11_execute_104 ⟨Nat.le_of_ble_eq_true rfl, Nat.le_of_ble_eq_true rfl⟩ ?_
  refine a_iload_n C dX11_execute_107 0 rfl ?_
  exact a_iret C hlocks hr dX11_execute_108 rfl rfl

set_option maxHeartbeats 1000000 in
set_option maxRecDepth 100000 in
theorem c_F_performCommands_ok (l : Launch) (G : xG) (d : xd) (Dw : Nat → xd) (hd0 : Dw 0 = d) (vv : Nat → Nat) (av bv : Nat → Int32) (c9 : Nat) (hc9 : c9 ≤ 15) (hcm : ∀ i, i ≤ c9 → Dw i 168 3 = nI c9) (hvv : ∀ i, i ≤ c9 → i < c9 → vv i < 13 ∧ Dw i 170 i = nI (vv i + 1) ∧ Dw i 171 i = av i ∧ Dw i 172 i = bv i) (hst : ∀ i, i < c9 → x_M G l yX11_refusalOf wsX11_refusalOf 5 0 0 [.ref (x_b G + 0), .ref (x_e G 0 (vv i)), .int (av i), .int (bv i)] (Dw i) (some (.ref (x_e G 1 0))) (Dw i) ∧ x_M G l yX11_perform wsX11_perform 6 0 0 [.ref (x_b G + 0), .ref (x_e G 0 (vv i)), .int (av i), .int (bv i)] (Dw i) none (Dw (i + 1)))  : x_M G l yX11_performCommands wsX11_performCommands 7 0 0 [.ref (x_b G + 0)] d (some (.int (nI c9))) (Dw c9) := by
  have iX11 : ∀ w ∈ u_ws RX11 TX11 13, w ∈ wsX11_performCommands := by decide +kernel
  have iX3 : ∀ w ∈ u_ws RX3 TX3 7, w ∈ wsX11_performCommands := by decide +kernel
  refine x_start (cc := cX11_performCommands) (maxL := 5) (ret := (some .int)) (own := RX11) (by decide) rfl rfl (Nat.le_of_ble_eq_true rfl) (lst := [(0, .ref (x_b G + 0))]) rfl ?_
  intro p e s m args below meth c C hr hlocks
  refine a_iconst C dX11_performCommands_0 (v := 0) (by decide) ?_
  refine a_istore_n C dX11_performCommands_1 (by decide) (lst2 := [(1, .int 0), (0, .ref (x_b G + 0))]) rfl ?_
  have L2 : ∀ (j i : Nat), i ≤ c9 → c9 < i + j → Ab G p l e (x_rm 7 0 0) s m args below meth c 5 0 0 (MQ below (x_Q G (some (.int (nI c9))) (Dw c9)) args s 0 0 (x_A G)) 2 [(1, .int (nI i)), (0, .ref (x_b G + 0))] [] (Dw i) := by
    intro j
    induction j with
    | zero => intro i h1 h2; exact absurd h2 (by omega)
    | succ j ih =>
      intro i hi hj 
      refine a_iload_n C dX11_performCommands_2 0 rfl ?_
      refine a_aload_n C dX11_performCommands_3 1 rfl ?_
      refine a_getR C (k := 0) iX11 x_k0 rfl (j := 9) rfl (by decide) (by decide +kernel) dX11_performCommands_4 ?_
      refine a_getI C (k := 168) iX3 x_k168 rfl (j := 3) rfl (by decide) (by decide +kernel) dX11_performCommands_7 ?_
      refine a_top (y := (nI c9)) (hcm i (by omega)) ?_
      refine a_icmp_ge C dX11_performCommands_10 (tgt := 78) (by decide) (fun h10 => ?_) (fun h10 => ?_)
      · skip
        have e := x_ge h10 hi (by omega)
        have e9 := e.symm
        subst e9
        clear e
        refine a_aload_n C dX11_performCommands_78 1 rfl ?_
        refine a_getR C (k := 0) iX11 x_k0 rfl (j := 9) rfl (by decide) (by decide +kernel) dX11_performCommands_79 ?_
        refine a_getI C (k := 168) iX3 x_k168 rfl (j := 3) rfl (by decide) (by decide +kernel) dX11_performCommands_82 ?_
        refine a_top (y := (nI c9)) (hcm c9 (Nat.le_refl c9)) ?_
        exact a_iret C hlocks hr dX11_performCommands_85 rfl rfl
      · skip
        have hlt := x_nge h10 hi
        obtain ⟨hv9, hv1, hv2, hv3⟩ := hvv i (by omega) (by omega)
        obtain ⟨hs1, hs2⟩ := hst i hlt
        refine a_aload_n C dX11_performCommands_13 1 rfl ?_
        refine a_getR C (k := 0) iX11 x_k0 rfl (j := 9) rfl (by decide) (by decide +kernel) dX11_performCommands_14 ?_
        refine a_getR C (k := 168) iX3 x_k168 rfl (j := 4) rfl (by decide) (by decide +kernel) dX11_performCommands_17 ?_
        refine a_iload_n C dX11_performCommands_20 0 rfl ?_
        refine a_aaldV_ref C (k := 170) x_k170 (i := i) rfl (by omega) (by decide) (v := (vv i)) hv9 hv1 dX11_performCommands_21 ?_
        refine a_astore_n C dX11_performCommands_22 (by decide) (lst2 := [(2, .ref (x_e G 0 ((vv i)))), (1, .int (nI i)), (0, .ref (x_b G + 0))]) rfl ?_
        refine a_aload_n C dX11_performCommands_23 2 rfl ?_
        refine a_getR C (k := 0) iX11 x_k0 rfl (j := 9) rfl (by decide) (by decide +kernel) dX11_performCommands_24 ?_
        refine a_getR C (k := 168) iX3 x_k168 rfl (j := 5) rfl (by decide) (by decide +kernel) dX11_performCommands_27 ?_
        refine a_iload_n C dX11_performCommands_30 1 rfl ?_
        refine a_ialdN C (k := 171) x_k171 (i := i) rfl (by omega) (by first | decide | omega) dX11_performCommands_31 ?_
        refine a_top (y := (av i)) hv2 ?_
        refine a_istore_n C dX11_performCommands_32 (by decide) (lst2 := [(3, .int (av i)), (2, .ref (x_e G 0 ((vv i)))), (1, .int (nI i)), (0, .ref (x_b G + 0))]) rfl ?_
        refine a_aload_n C dX11_performCommands_33 3 rfl ?_
        refine a_getR C (k := 0) iX11 x_k0 rfl (j := 9) rfl (by decide) (by decide +kernel) dX11_performCommands_34 ?_
        refine a_getR C (k := 168) iX3 x_k168 rfl (j := 6) rfl (by decide) (by decide +kernel) dX11_performCommands_37 ?_
        refine a_iload_n C dX11_performCommands_40 2 rfl ?_
        refine a_ialdN C (k := 172) x_k172 (i := i) rfl (by omega) (by first | decide | omega) dX11_performCommands_41 ?_
        refine a_top (y := (bv i)) hv3 ?_
        refine a_istore C dX11_performCommands_42 (by decide) (lst2 := [(4, .int (bv i)), (3, .int (av i)), (2, .ref (x_e G 0 ((vv i)))), (1, .int (nI i)), (0, .ref (x_b G + 0))]) rfl ?_
        refine a_aload_n C dX11_performCommands_44 2 rfl ?_
        refine a_ifnull C dX11_performCommands_45 ?_
        refine a_aload_n C dX11_performCommands_48 4 rfl ?_
        refine a_aload_n C dX11_performCommands_49 2 rfl ?_
        refine a_iload_n C dX11_performCommands_50 1 rfl ?_
        refine a_iload C dX11_performCommands_51 0 rfl ?_
        refine a_callV C (k := 0) (As := [.ref (x_e G 0 ((vv i))), .int (av i), .int (bv i)]) (rest := []) (hs1) (cwV 3 C.1.2.2.2.2 gX11_performCommands_X11_refusalOf rfl rfl rfl (by decide +kernel) ⟨Nat.le_of_ble_eq_true rfl, Nat.le_of_ble_eq_true rfl⟩) x_k0 (q := (RX11, TX11, 13)) rfl rfl rfl rfl (Nat.le_of_ble_eq_true rfl) dX11_performCommands_53 ⟨Nat.le_of_ble_eq_true rfl, Nat.le_of_ble_eq_true rfl⟩ ?_
        refine a_getsR C (i := 0) (by decide) (by decide +kernel) dX11_performCommands_56 ?_
        refine a_acmp_eq C dX11_performCommands_59 (tgt := 64) (by decide) (fun h59 => ?_) (fun h => False.elim (h rfl))
        refine a_aload_n C dX11_performCommands_64 4 rfl ?_
        refine a_aload_n C dX11_performCommands_65 2 rfl ?_
        refine a_iload_n C dX11_performCommands_66 1 rfl ?_
        refine a_iload C dX11_performCommands_67 0 rfl ?_
        refine a_callV C (k := 0) (As := [.ref (x_e G 0 ((vv i))), .int (av i), .int (bv i)]) (rest := []) (hs2) (cwV 3 C.1.2.2.2.2 gX11_performCommands_X11_perform rfl rfl rfl (by decide +kernel) ⟨Nat.le_of_ble_eq_true rfl, Nat.le_of_ble_eq_true rfl⟩) x_k0 (q := (RX11, TX11, 13)) rfl rfl rfl rfl (Nat.le_of_ble_eq_true rfl) dX11_performCommands_69 ⟨Nat.le_of_ble_eq_true rfl, Nat.le_of_ble_eq_true rfl⟩ ?_
        refine a_iinc C dX11_performCommands_72 3 rfl (v := (nI (i + 1))) (x_inc i) (by decide) (lst2 := [(1, .int (nI (i + 1))), (4, .int (bv i)), (3, .int (av i)), (2, .ref (x_e G 0 ((vv i)))), (0, .ref (x_b G + 0))]) rfl ?_
        refine a_goto C dX11_performCommands_75 (tgt := 2) (by decide) ?_
        refine a_sub (lst2 := [(1, .int (nI (i + 1))), (0, .ref (x_b G + 0))]) [0, 4] rfl ?_
        refine a_to (lst2 := [(1, .int (nI ((i + 1)))), (0, .ref (x_b G + 0))]) (st2 := []) (d2 := Dw ((i + 1))) rfl rfl rfl ?_
        exact ih (i + 1) (by omega) (by omega) 
  refine a_sub (lst2 := [(1, .int 0), (0, .ref (x_b G + 0))]) [0, 1] rfl ?_
  refine a_toD (d2 := Dw 0) hd0.symm ?_
  exact L2 (c9 + 1) 0 (by omega) (by omega)

set_option maxHeartbeats 1000000 in
set_option maxRecDepth 100000 in
theorem c_F_performCommands_bad (l : Launch) (G : xG) (d : xd) (k9 : Nat) (Dw : Nat → xd) (hd0 : Dw 0 = d) (vv : Nat → Nat) (av bv : Nat → Int32) (c9 : Nat) (hc9 : c9 ≤ 15) (hcm : ∀ i, i ≤ k9 → Dw i 168 3 = nI c9) (hvv : ∀ i, i ≤ k9 → i < c9 → vv i < 13 ∧ Dw i 170 i = nI (vv i + 1) ∧ Dw i 171 i = av i ∧ Dw i 172 i = bv i) (hst : ∀ i, i < k9 → x_M G l yX11_refusalOf wsX11_refusalOf 5 0 0 [.ref (x_b G + 0), .ref (x_e G 0 (vv i)), .int (av i), .int (bv i)] (Dw i) (some (.ref (x_e G 1 0))) (Dw i) ∧ x_M G l yX11_perform wsX11_perform 6 0 0 [.ref (x_b G + 0), .ref (x_e G 0 (vv i)), .int (av i), .int (bv i)] (Dw i) none (Dw (i + 1))) (hkc : k9 < c9) (f9 : Nat) (hf4 : f9 < 4) (hf0 : f9 ≠ 0) (hbad : x_M G l yX11_refusalOf wsX11_refusalOf 5 0 0 [.ref (x_b G + 0), .ref (x_e G 0 (vv k9)), .int (av k9), .int (bv k9)] (Dw k9) (some (.ref (x_e G 1 f9))) (Dw k9)) : x_M G l yX11_performCommands wsX11_performCommands 7 0 0 [.ref (x_b G + 0)] d (some (.int (nI k9))) (Dw k9) := by
  have iX11 : ∀ w ∈ u_ws RX11 TX11 13, w ∈ wsX11_performCommands := by decide +kernel
  have iX3 : ∀ w ∈ u_ws RX3 TX3 7, w ∈ wsX11_performCommands := by decide +kernel
  refine x_start (cc := cX11_performCommands) (maxL := 5) (ret := (some .int)) (own := RX11) (by decide) rfl rfl (Nat.le_of_ble_eq_true rfl) (lst := [(0, .ref (x_b G + 0))]) rfl ?_
  intro p e s m args below meth c C hr hlocks
  refine a_iconst C dX11_performCommands_0 (v := 0) (by decide) ?_
  refine a_istore_n C dX11_performCommands_1 (by decide) (lst2 := [(1, .int 0), (0, .ref (x_b G + 0))]) rfl ?_
  have L2 : ∀ (j i : Nat), i ≤ k9 → k9 < i + j → Ab G p l e (x_rm 7 0 0) s m args below meth c 5 0 0 (MQ below (x_Q G (some (.int (nI k9))) (Dw k9)) args s 0 0 (x_A G)) 2 [(1, .int (nI i)), (0, .ref (x_b G + 0))] [] (Dw i) := by
    intro j
    induction j with
    | zero => intro i h1 h2; exact absurd h2 (by omega)
    | succ j ih =>
      intro i hi hj 
      refine a_iload_n C dX11_performCommands_2 0 rfl ?_
      refine a_aload_n C dX11_performCommands_3 1 rfl ?_
      refine a_getR C (k := 0) iX11 x_k0 rfl (j := 9) rfl (by decide) (by decide +kernel) dX11_performCommands_4 ?_
      refine a_getI C (k := 168) iX3 x_k168 rfl (j := 3) rfl (by decide) (by decide +kernel) dX11_performCommands_7 ?_
      refine a_top (y := (nI c9)) (hcm i (by omega)) ?_
      refine a_icmp_ge C dX11_performCommands_10 (tgt := 78) (by decide) (fun h => absurd h (nI_ge (by omega) (by omega))) (fun h10 => ?_)
      rcases Nat.lt_or_ge i k9 with hik | hik
      · skip
        obtain ⟨hv9, hv1, hv2, hv3⟩ := hvv i (by omega) (by omega)
        obtain ⟨hs1, hs2⟩ := hst i hik
        refine a_aload_n C dX11_performCommands_13 1 rfl ?_
        refine a_getR C (k := 0) iX11 x_k0 rfl (j := 9) rfl (by decide) (by decide +kernel) dX11_performCommands_14 ?_
        refine a_getR C (k := 168) iX3 x_k168 rfl (j := 4) rfl (by decide) (by decide +kernel) dX11_performCommands_17 ?_
        refine a_iload_n C dX11_performCommands_20 0 rfl ?_
        refine a_aaldV_ref C (k := 170) x_k170 (i := i) rfl (by omega) (by decide) (v := (vv i)) hv9 hv1 dX11_performCommands_21 ?_
        refine a_astore_n C dX11_performCommands_22 (by decide) (lst2 := [(2, .ref (x_e G 0 ((vv i)))), (1, .int (nI i)), (0, .ref (x_b G + 0))]) rfl ?_
        refine a_aload_n C dX11_performCommands_23 2 rfl ?_
        refine a_getR C (k := 0) iX11 x_k0 rfl (j := 9) rfl (by decide) (by decide +kernel) dX11_performCommands_24 ?_
        refine a_getR C (k := 168) iX3 x_k168 rfl (j := 5) rfl (by decide) (by decide +kernel) dX11_performCommands_27 ?_
        refine a_iload_n C dX11_performCommands_30 1 rfl ?_
        refine a_ialdN C (k := 171) x_k171 (i := i) rfl (by omega) (by first | decide | omega) dX11_performCommands_31 ?_
        refine a_top (y := (av i)) hv2 ?_
        refine a_istore_n C dX11_performCommands_32 (by decide) (lst2 := [(3, .int (av i)), (2, .ref (x_e G 0 ((vv i)))), (1, .int (nI i)), (0, .ref (x_b G + 0))]) rfl ?_
        refine a_aload_n C dX11_performCommands_33 3 rfl ?_
        refine a_getR C (k := 0) iX11 x_k0 rfl (j := 9) rfl (by decide) (by decide +kernel) dX11_performCommands_34 ?_
        refine a_getR C (k := 168) iX3 x_k168 rfl (j := 6) rfl (by decide) (by decide +kernel) dX11_performCommands_37 ?_
        refine a_iload_n C dX11_performCommands_40 2 rfl ?_
        refine a_ialdN C (k := 172) x_k172 (i := i) rfl (by omega) (by first | decide | omega) dX11_performCommands_41 ?_
        refine a_top (y := (bv i)) hv3 ?_
        refine a_istore C dX11_performCommands_42 (by decide) (lst2 := [(4, .int (bv i)), (3, .int (av i)), (2, .ref (x_e G 0 ((vv i)))), (1, .int (nI i)), (0, .ref (x_b G + 0))]) rfl ?_
        refine a_aload_n C dX11_performCommands_44 2 rfl ?_
        refine a_ifnull C dX11_performCommands_45 ?_
        refine a_aload_n C dX11_performCommands_48 4 rfl ?_
        refine a_aload_n C dX11_performCommands_49 2 rfl ?_
        refine a_iload_n C dX11_performCommands_50 1 rfl ?_
        refine a_iload C dX11_performCommands_51 0 rfl ?_
        refine a_callV C (k := 0) (As := [.ref (x_e G 0 ((vv i))), .int (av i), .int (bv i)]) (rest := []) (hs1) (cwV 3 C.1.2.2.2.2 gX11_performCommands_X11_refusalOf rfl rfl rfl (by decide +kernel) ⟨Nat.le_of_ble_eq_true rfl, Nat.le_of_ble_eq_true rfl⟩) x_k0 (q := (RX11, TX11, 13)) rfl rfl rfl rfl (Nat.le_of_ble_eq_true rfl) dX11_performCommands_53 ⟨Nat.le_of_ble_eq_true rfl, Nat.le_of_ble_eq_true rfl⟩ ?_
        refine a_getsR C (i := 0) (by decide) (by decide +kernel) dX11_performCommands_56 ?_
        refine a_acmp_eq C dX11_performCommands_59 (tgt := 64) (by decide) (fun h59 => ?_) (fun h => False.elim (h rfl))
        refine a_aload_n C dX11_performCommands_64 4 rfl ?_
        refine a_aload_n C dX11_performCommands_65 2 rfl ?_
        refine a_iload_n C dX11_performCommands_66 1 rfl ?_
        refine a_iload C dX11_performCommands_67 0 rfl ?_
        refine a_callV C (k := 0) (As := [.ref (x_e G 0 ((vv i))), .int (av i), .int (bv i)]) (rest := []) (hs2) (cwV 3 C.1.2.2.2.2 gX11_performCommands_X11_perform rfl rfl rfl (by decide +kernel) ⟨Nat.le_of_ble_eq_true rfl, Nat.le_of_ble_eq_true rfl⟩) x_k0 (q := (RX11, TX11, 13)) rfl rfl rfl rfl (Nat.le_of_ble_eq_true rfl) dX11_performCommands_69 ⟨Nat.le_of_ble_eq_true rfl, Nat.le_of_ble_eq_true rfl⟩ ?_
        refine a_iinc C dX11_performCommands_72 3 rfl (v := (nI (i + 1))) (x_inc i) (by decide) (lst2 := [(1, .int (nI (i + 1))), (4, .int (bv i)), (3, .int (av i)), (2, .ref (x_e G 0 ((vv i)))), (0, .ref (x_b G + 0))]) rfl ?_
        refine a_goto C dX11_performCommands_75 (tgt := 2) (by decide) ?_
        refine a_sub (lst2 := [(1, .int (nI (i + 1))), (0, .ref (x_b G + 0))]) [0, 4] rfl ?_
        refine a_to (lst2 := [(1, .int (nI ((i + 1)))), (0, .ref (x_b G + 0))]) (st2 := []) (d2 := Dw ((i + 1))) rfl rfl rfl ?_
        exact ih (i + 1) (by omega) (by omega) 
      · skip
        have e9 : k9 = i := by omega
        subst e9
        obtain ⟨hv9, hv1, hv2, hv3⟩ := hvv k9 (by omega) (by omega)
        refine a_aload_n C dX11_performCommands_13 1 rfl ?_
        refine a_getR C (k := 0) iX11 x_k0 rfl (j := 9) rfl (by decide) (by decide +kernel) dX11_performCommands_14 ?_
        refine a_getR C (k := 168) iX3 x_k168 rfl (j := 4) rfl (by decide) (by decide +kernel) dX11_performCommands_17 ?_
        refine a_iload_n C dX11_performCommands_20 0 rfl ?_
        refine a_aaldV_ref C (k := 170) x_k170 (i := k9) rfl (by omega) (by decide) (v := (vv k9)) hv9 hv1 dX11_performCommands_21 ?_
        refine a_astore_n C dX11_performCommands_22 (by decide) (lst2 := [(2, .ref (x_e G 0 ((vv k9)))), (1, .int (nI k9)), (0, .ref (x_b G + 0))]) rfl ?_
        refine a_aload_n C dX11_performCommands_23 2 rfl ?_
        refine a_getR C (k := 0) iX11 x_k0 rfl (j := 9) rfl (by decide) (by decide +kernel) dX11_performCommands_24 ?_
        refine a_getR C (k := 168) iX3 x_k168 rfl (j := 5) rfl (by decide) (by decide +kernel) dX11_performCommands_27 ?_
        refine a_iload_n C dX11_performCommands_30 1 rfl ?_
        refine a_ialdN C (k := 171) x_k171 (i := k9) rfl (by omega) (by first | decide | omega) dX11_performCommands_31 ?_
        refine a_top (y := (av k9)) hv2 ?_
        refine a_istore_n C dX11_performCommands_32 (by decide) (lst2 := [(3, .int (av k9)), (2, .ref (x_e G 0 ((vv k9)))), (1, .int (nI k9)), (0, .ref (x_b G + 0))]) rfl ?_
        refine a_aload_n C dX11_performCommands_33 3 rfl ?_
        refine a_getR C (k := 0) iX11 x_k0 rfl (j := 9) rfl (by decide) (by decide +kernel) dX11_performCommands_34 ?_
        refine a_getR C (k := 168) iX3 x_k168 rfl (j := 6) rfl (by decide) (by decide +kernel) dX11_performCommands_37 ?_
        refine a_iload_n C dX11_performCommands_40 2 rfl ?_
        refine a_ialdN C (k := 172) x_k172 (i := k9) rfl (by omega) (by first | decide | omega) dX11_performCommands_41 ?_
        refine a_top (y := (bv k9)) hv3 ?_
        refine a_istore C dX11_performCommands_42 (by decide) (lst2 := [(4, .int (bv k9)), (3, .int (av k9)), (2, .ref (x_e G 0 ((vv k9)))), (1, .int (nI k9)), (0, .ref (x_b G + 0))]) rfl ?_
        refine a_aload_n C dX11_performCommands_44 2 rfl ?_
        refine a_ifnull C dX11_performCommands_45 ?_
        refine a_aload_n C dX11_performCommands_48 4 rfl ?_
        refine a_aload_n C dX11_performCommands_49 2 rfl ?_
        refine a_iload_n C dX11_performCommands_50 1 rfl ?_
        refine a_iload C dX11_performCommands_51 0 rfl ?_
        refine a_callV C (k := 0) (As := [.ref (x_e G 0 ((vv k9))), .int (av k9), .int (bv k9)]) (rest := []) (hbad) (cwV 3 C.1.2.2.2.2 gX11_performCommands_X11_refusalOf rfl rfl rfl (by decide +kernel) ⟨Nat.le_of_ble_eq_true rfl, Nat.le_of_ble_eq_true rfl⟩) x_k0 (q := (RX11, TX11, 13)) rfl rfl rfl rfl (Nat.le_of_ble_eq_true rfl) dX11_performCommands_53 ⟨Nat.le_of_ble_eq_true rfl, Nat.le_of_ble_eq_true rfl⟩ ?_
        refine a_getsR C (i := 0) (by decide) (by decide +kernel) dX11_performCommands_56 ?_
        refine a_acmp_eq C dX11_performCommands_59 (tgt := 64) (by decide) (fun h => absurd h (x_e1_ne C hf4 (by decide) hf0)) (fun h59 => ?_)
        refine a_iload_n C dX11_performCommands_62 3 rfl ?_
        exact a_iret C hlocks hr dX11_performCommands_63 rfl rfl
  refine a_sub (lst2 := [(1, .int 0), (0, .ref (x_b G + 0))]) [0, 1] rfl ?_
  refine a_toD (d2 := Dw 0) hd0.symm ?_
  exact L2 (k9 + 1) 0 (by omega) (by omega)

set_option maxHeartbeats 1000000 in
set_option maxRecDepth 100000 in
theorem c_F_refusalOf_0 (l : Launch) (G : xG) (d : xd) (a b : Int32)  : x_M G l yX11_refusalOf wsX11_refusalOf 5 0 0 [.ref (x_b G + 0), .ref (x_e G 0 0), .int a, .int b] d (some (.ref (x_e G 1 ((f_ra d 1 a b))))) d := by
  have iX11 : ∀ w ∈ u_ws RX11 TX11 13, w ∈ wsX11_refusalOf := by decide +kernel
  refine x_start (cc := cX11_refusalOf) (maxL := 4) (ret := (some (.object "LampCooperative$Refusal"))) (own := RX11) (by decide) rfl rfl (Nat.le_of_ble_eq_true rfl) (lst := [(0, .ref (x_b G + 0)), (1, .ref (x_e G 0 0)), (2, .int a), (3, .int b)]) rfl ?_
  intro p e s m args below meth c C hr hlocks
  refine a_getsSM C (by decide +kernel) dX11_refusalOf_0 ?_
  refine a_aload_n C dX11_refusalOf_3 1 rfl ?_
  refine a_callRU C (b := x_e G 0 0) (As := []) (rest := [.ref (x_e G 4 1)]) (c_E_ordinal l G d 0 (by decide)) (va_cwU 0 C.1.2.2.2.2 gX11_refusalOf_Jx29ce0_ordinal_8abf5_u430X10 rfl rfl rfl rfl (by decide +kernel) ⟨Nat.le_of_ble_eq_true rfl, Nat.le_of_ble_eq_true rfl⟩) (x_recV C (by first | assumption | omega)) rfl rfl (Nat.le_of_ble_eq_true rfl) dX11_refusalOf_4 ⟨Nat.le_of_ble_eq_true rfl, Nat.le_of_ble_eq_true rfl⟩ ?_
  refine a_top (y := (nI 0)) (by decide +kernel) ?_
  refine a_iaSM C (i := 0) rfl (by decide) dX11_refusalOf_7 ?_
  refine a_tableIn C dX11_refusalOf_8 (by decide +kernel) (by decide +kernel) (off := 64) (by decide +kernel) (tgt := 72) (by decide) ?_
  refine a_aload_n C dX11_refusalOf_72 0 rfl ?_
  refine a_getR C (k := 0) iX11 x_k0 rfl (j := 0) rfl (by decide) (by decide +kernel) dX11_refusalOf_73 ?_
  refine a_iload_n C dX11_refusalOf_76 2 rfl ?_
  refine a_iload_n C dX11_refusalOf_77 3 rfl ?_
  refine a_callV C (k := 1) (As := [.int a, .int b]) (rest := []) (c_X9_refusalToAddLamp l G d 1 x_isS_1 a b) (cwV 2 C.1.2.2.2.2 gX11_refusalOf_X9_refusalToAddLamp rfl rfl rfl (by decide +kernel) ⟨Nat.le_of_ble_eq_true rfl, Nat.le_of_ble_eq_true rfl⟩) (x_sS0 x_isS_1) (q := (RX9, TX9, 3)) rfl rfl rfl rfl (Nat.le_of_ble_eq_true rfl) dX11_refusalOf_78 ⟨Nat.le_of_ble_eq_true rfl, Nat.le_of_ble_eq_true rfl⟩ ?_
  exact a_aret C hlocks hr dX11_refusalOf_81 rfl rfl

set_option maxHeartbeats 1000000 in
set_option maxRecDepth 100000 in
theorem c_F_refusalOf_1 (l : Launch) (G : xG) (d : xd) (a b : Int32) (n : Nat) (hn : d 2 0 = nI n) (h8 : n ≤ 8)  : x_M G l yX11_refusalOf wsX11_refusalOf 5 0 0 [.ref (x_b G + 0), .ref (x_e G 0 1), .int a, .int b] d (some (.ref (x_e G 1 ((f_rd d 1 a))))) d := by
  have iX11 : ∀ w ∈ u_ws RX11 TX11 13, w ∈ wsX11_refusalOf := by decide +kernel
  refine x_start (cc := cX11_refusalOf) (maxL := 4) (ret := (some (.object "LampCooperative$Refusal"))) (own := RX11) (by decide) rfl rfl (Nat.le_of_ble_eq_true rfl) (lst := [(0, .ref (x_b G + 0)), (1, .ref (x_e G 0 1)), (2, .int a), (3, .int b)]) rfl ?_
  intro p e s m args below meth c C hr hlocks
  refine a_getsSM C (by decide +kernel) dX11_refusalOf_0 ?_
  refine a_aload_n C dX11_refusalOf_3 1 rfl ?_
  refine a_callRU C (b := x_e G 0 1) (As := []) (rest := [.ref (x_e G 4 1)]) (c_E_ordinal l G d 1 (by decide)) (va_cwU 0 C.1.2.2.2.2 gX11_refusalOf_Jx29ce0_ordinal_8abf5_u430X10 rfl rfl rfl rfl (by decide +kernel) ⟨Nat.le_of_ble_eq_true rfl, Nat.le_of_ble_eq_true rfl⟩) (x_recV C (by first | assumption | omega)) rfl rfl (Nat.le_of_ble_eq_true rfl) dX11_refusalOf_4 ⟨Nat.le_of_ble_eq_true rfl, Nat.le_of_ble_eq_true rfl⟩ ?_
  refine a_top (y := (nI 1)) (by decide +kernel) ?_
  refine a_iaSM C (i := 1) rfl (by decide) dX11_refusalOf_7 ?_
  refine a_tableIn C dX11_refusalOf_8 (by decide +kernel) (by decide +kernel) (off := 74) (by decide +kernel) (tgt := 82) (by decide) ?_
  refine a_aload_n C dX11_refusalOf_82 0 rfl ?_
  refine a_getR C (k := 0) iX11 x_k0 rfl (j := 0) rfl (by decide) (by decide +kernel) dX11_refusalOf_83 ?_
  refine a_iload_n C dX11_refusalOf_86 2 rfl ?_
  refine a_callV C (k := 1) (As := [.int a]) (rest := []) (c_X9_refusalToDropLamp l G d 1 n x_isS_1 hn h8 a) (cwV 1 C.1.2.2.2.2 gX11_refusalOf_X9_refusalToDropLamp rfl rfl rfl (by decide +kernel) ⟨Nat.le_of_ble_eq_true rfl, Nat.le_of_ble_eq_true rfl⟩) (x_sS0 x_isS_1) (q := (RX9, TX9, 3)) rfl rfl rfl rfl (Nat.le_of_ble_eq_true rfl) dX11_refusalOf_87 ⟨Nat.le_of_ble_eq_true rfl, Nat.le_of_ble_eq_true rfl⟩ ?_
  exact a_aret C hlocks hr dX11_refusalOf_90 rfl rfl

set_option maxHeartbeats 1000000 in
set_option maxRecDepth 100000 in
theorem c_F_refusalOf_2 (l : Launch) (G : xG) (d : xd) (a b : Int32)  : x_M G l yX11_refusalOf wsX11_refusalOf 5 0 0 [.ref (x_b G + 0), .ref (x_e G 0 2), .int a, .int b] d (some (.ref (x_e G 1 ((f_rdel d 1 a))))) d := by
  have iX11 : ∀ w ∈ u_ws RX11 TX11 13, w ∈ wsX11_refusalOf := by decide +kernel
  refine x_start (cc := cX11_refusalOf) (maxL := 4) (ret := (some (.object "LampCooperative$Refusal"))) (own := RX11) (by decide) rfl rfl (Nat.le_of_ble_eq_true rfl) (lst := [(0, .ref (x_b G + 0)), (1, .ref (x_e G 0 2)), (2, .int a), (3, .int b)]) rfl ?_
  intro p e s m args below meth c C hr hlocks
  refine a_getsSM C (by decide +kernel) dX11_refusalOf_0 ?_
  refine a_aload_n C dX11_refusalOf_3 1 rfl ?_
  refine a_callRU C (b := x_e G 0 2) (As := []) (rest := [.ref (x_e G 4 1)]) (c_E_ordinal l G d 2 (by decide)) (va_cwU 0 C.1.2.2.2.2 gX11_refusalOf_Jx29ce0_ordinal_8abf5_u430X10 rfl rfl rfl rfl (by decide +kernel) ⟨Nat.le_of_ble_eq_true rfl, Nat.le_of_ble_eq_true rfl⟩) (x_recV C (by first | assumption | omega)) rfl rfl (Nat.le_of_ble_eq_true rfl) dX11_refusalOf_4 ⟨Nat.le_of_ble_eq_true rfl, Nat.le_of_ble_eq_true rfl⟩ ?_
  refine a_top (y := (nI 2)) (by decide +kernel) ?_
  refine a_iaSM C (i := 2) rfl (by decide) dX11_refusalOf_7 ?_
  refine a_tableIn C dX11_refusalOf_8 (by decide +kernel) (by decide +kernel) (off := 83) (by decide +kernel) (tgt := 91) (by decide) ?_
  refine a_aload_n C dX11_refusalOf_91 0 rfl ?_
  refine a_getR C (k := 0) iX11 x_k0 rfl (j := 0) rfl (by decide) (by decide +kernel) dX11_refusalOf_92 ?_
  refine a_iload_n C dX11_refusalOf_95 2 rfl ?_
  refine a_callV C (k := 1) (As := [.int a]) (rest := []) (c_X9_refusalToDeliver l G d 1 x_isS_1 a) (cwV 1 C.1.2.2.2.2 gX11_refusalOf_X9_refusalToDeliver rfl rfl rfl (by decide +kernel) ⟨Nat.le_of_ble_eq_true rfl, Nat.le_of_ble_eq_true rfl⟩) (x_sS0 x_isS_1) (q := (RX9, TX9, 3)) rfl rfl rfl rfl (Nat.le_of_ble_eq_true rfl) dX11_refusalOf_96 ⟨Nat.le_of_ble_eq_true rfl, Nat.le_of_ble_eq_true rfl⟩ ?_
  exact a_aret C hlocks hr dX11_refusalOf_99 rfl rfl

set_option maxHeartbeats 1000000 in
set_option maxRecDepth 100000 in
theorem c_F_refusalOf_3 (l : Launch) (G : xG) (d : xd) (a b : Int32)  : x_M G l yX11_refusalOf wsX11_refusalOf 5 0 0 [.ref (x_b G + 0), .ref (x_e G 0 3), .int a, .int b] d (some (.ref (x_e G 1 ((f_rdon d 1 a))))) d := by
  have iX11 : ∀ w ∈ u_ws RX11 TX11 13, w ∈ wsX11_refusalOf := by decide +kernel
  refine x_start (cc := cX11_refusalOf) (maxL := 4) (ret := (some (.object "LampCooperative$Refusal"))) (own := RX11) (by decide) rfl rfl (Nat.le_of_ble_eq_true rfl) (lst := [(0, .ref (x_b G + 0)), (1, .ref (x_e G 0 3)), (2, .int a), (3, .int b)]) rfl ?_
  intro p e s m args below meth c C hr hlocks
  refine a_getsSM C (by decide +kernel) dX11_refusalOf_0 ?_
  refine a_aload_n C dX11_refusalOf_3 1 rfl ?_
  refine a_callRU C (b := x_e G 0 3) (As := []) (rest := [.ref (x_e G 4 1)]) (c_E_ordinal l G d 3 (by decide)) (va_cwU 0 C.1.2.2.2.2 gX11_refusalOf_Jx29ce0_ordinal_8abf5_u430X10 rfl rfl rfl rfl (by decide +kernel) ⟨Nat.le_of_ble_eq_true rfl, Nat.le_of_ble_eq_true rfl⟩) (x_recV C (by first | assumption | omega)) rfl rfl (Nat.le_of_ble_eq_true rfl) dX11_refusalOf_4 ⟨Nat.le_of_ble_eq_true rfl, Nat.le_of_ble_eq_true rfl⟩ ?_
  refine a_top (y := (nI 3)) (by decide +kernel) ?_
  refine a_iaSM C (i := 3) rfl (by decide) dX11_refusalOf_7 ?_
  refine a_tableIn C dX11_refusalOf_8 (by decide +kernel) (by decide +kernel) (off := 92) (by decide +kernel) (tgt := 100) (by decide) ?_
  refine a_aload_n C dX11_refusalOf_100 0 rfl ?_
  refine a_getR C (k := 0) iX11 x_k0 rfl (j := 0) rfl (by decide) (by decide +kernel) dX11_refusalOf_101 ?_
  refine a_iload_n C dX11_refusalOf_104 2 rfl ?_
  refine a_callV C (k := 1) (As := [.int a]) (rest := []) (c_X9_refusalToDonate l G d 1 x_isS_1 a) (cwV 1 C.1.2.2.2.2 gX11_refusalOf_X9_refusalToDonate rfl rfl rfl (by decide +kernel) ⟨Nat.le_of_ble_eq_true rfl, Nat.le_of_ble_eq_true rfl⟩) (x_sS0 x_isS_1) (q := (RX9, TX9, 3)) rfl rfl rfl rfl (Nat.le_of_ble_eq_true rfl) dX11_refusalOf_105 ⟨Nat.le_of_ble_eq_true rfl, Nat.le_of_ble_eq_true rfl⟩ ?_
  exact a_aret C hlocks hr dX11_refusalOf_108 rfl rfl

set_option maxHeartbeats 1000000 in
set_option maxRecDepth 100000 in
theorem c_F_refusalOf_4 (l : Launch) (G : xG) (d : xd) (a b : Int32) (n : Nat) (hn : d 2 0 = nI n) (h8 : n ≤ 8)  : x_M G l yX11_refusalOf wsX11_refusalOf 5 0 0 [.ref (x_b G + 0), .ref (x_e G 0 4), .int a, .int b] d (some (.ref (x_e G 1 ((f_rgive d 1 a b))))) d := by
  have iX11 : ∀ w ∈ u_ws RX11 TX11 13, w ∈ wsX11_refusalOf := by decide +kernel
  refine x_start (cc := cX11_refusalOf) (maxL := 4) (ret := (some (.object "LampCooperative$Refusal"))) (own := RX11) (by decide) rfl rfl (Nat.le_of_ble_eq_true rfl) (lst := [(0, .ref (x_b G + 0)), (1, .ref (x_e G 0 4)), (2, .int a), (3, .int b)]) rfl ?_
  intro p e s m args below meth c C hr hlocks
  refine a_getsSM C (by decide +kernel) dX11_refusalOf_0 ?_
  refine a_aload_n C dX11_refusalOf_3 1 rfl ?_
  refine a_callRU C (b := x_e G 0 4) (As := []) (rest := [.ref (x_e G 4 1)]) (c_E_ordinal l G d 4 (by decide)) (va_cwU 0 C.1.2.2.2.2 gX11_refusalOf_Jx29ce0_ordinal_8abf5_u430X10 rfl rfl rfl rfl (by decide +kernel) ⟨Nat.le_of_ble_eq_true rfl, Nat.le_of_ble_eq_true rfl⟩) (x_recV C (by first | assumption | omega)) rfl rfl (Nat.le_of_ble_eq_true rfl) dX11_refusalOf_4 ⟨Nat.le_of_ble_eq_true rfl, Nat.le_of_ble_eq_true rfl⟩ ?_
  refine a_top (y := (nI 4)) (by decide +kernel) ?_
  refine a_iaSM C (i := 4) rfl (by decide) dX11_refusalOf_7 ?_
  refine a_tableIn C dX11_refusalOf_8 (by decide +kernel) (by decide +kernel) (off := 101) (by decide +kernel) (tgt := 109) (by decide) ?_
  refine a_aload_n C dX11_refusalOf_109 0 rfl ?_
  refine a_getR C (k := 0) iX11 x_k0 rfl (j := 0) rfl (by decide) (by decide +kernel) dX11_refusalOf_110 ?_
  refine a_iload_n C dX11_refusalOf_113 2 rfl ?_
  refine a_iload_n C dX11_refusalOf_114 3 rfl ?_
  refine a_callV C (k := 1) (As := [.int a, .int b]) (rest := []) (c_X9_refusalToGive l G d 1 n x_isS_1 hn h8 a b) (cwV 2 C.1.2.2.2.2 gX11_refusalOf_X9_refusalToGive rfl rfl rfl (by decide +kernel) ⟨Nat.le_of_ble_eq_true rfl, Nat.le_of_ble_eq_true rfl⟩) (x_sS0 x_isS_1) (q := (RX9, TX9, 3)) rfl rfl rfl rfl (Nat.le_of_ble_eq_true rfl) dX11_refusalOf_115 ⟨Nat.le_of_ble_eq_true rfl, Nat.le_of_ble_eq_true rfl⟩ ?_
  exact a_aret C hlocks hr dX11_refusalOf_118 rfl rfl

set_option maxHeartbeats 1000000 in
set_option maxRecDepth 100000 in
theorem c_F_refusalOf_5 (l : Launch) (G : xG) (d : xd) (a b : Int32)  : x_M G l yX11_refusalOf wsX11_refusalOf 5 0 0 [.ref (x_b G + 0), .ref (x_e G 0 5), .int a, .int b] d (some (.ref (x_e G 1 ((f_rl d 1 a b 5))))) d := by
  have iX11 : ∀ w ∈ u_ws RX11 TX11 13, w ∈ wsX11_refusalOf := by decide +kernel
  refine x_start (cc := cX11_refusalOf) (maxL := 4) (ret := (some (.object "LampCooperative$Refusal"))) (own := RX11) (by decide) rfl rfl (Nat.le_of_ble_eq_true rfl) (lst := [(0, .ref (x_b G + 0)), (1, .ref (x_e G 0 5)), (2, .int a), (3, .int b)]) rfl ?_
  intro p e s m args below meth c C hr hlocks
  refine a_getsSM C (by decide +kernel) dX11_refusalOf_0 ?_
  refine a_aload_n C dX11_refusalOf_3 1 rfl ?_
  refine a_callRU C (b := x_e G 0 5) (As := []) (rest := [.ref (x_e G 4 1)]) (c_E_ordinal l G d 5 (by decide)) (va_cwU 0 C.1.2.2.2.2 gX11_refusalOf_Jx29ce0_ordinal_8abf5_u430X10 rfl rfl rfl rfl (by decide +kernel) ⟨Nat.le_of_ble_eq_true rfl, Nat.le_of_ble_eq_true rfl⟩) (x_recV C (by first | assumption | omega)) rfl rfl (Nat.le_of_ble_eq_true rfl) dX11_refusalOf_4 ⟨Nat.le_of_ble_eq_true rfl, Nat.le_of_ble_eq_true rfl⟩ ?_
  refine a_top (y := (nI 5)) (by decide +kernel) ?_
  refine a_iaSM C (i := 5) rfl (by decide) dX11_refusalOf_7 ?_
  refine a_tableIn C dX11_refusalOf_8 (by decide +kernel) (by decide +kernel) (off := 111) (by decide +kernel) (tgt := 119) (by decide) ?_
  refine a_aload_n C dX11_refusalOf_119 0 rfl ?_
  refine a_getR C (k := 0) iX11 x_k0 rfl (j := 0) rfl (by decide) (by decide +kernel) dX11_refusalOf_120 ?_
  refine a_iload_n C dX11_refusalOf_123 2 rfl ?_
  refine a_iload_n C dX11_refusalOf_124 3 rfl ?_
  refine a_iconst C dX11_refusalOf_125 (v := 5) (by decide) ?_
  refine a_callV C (k := 1) (As := [.int a, .int b, .int 5]) (rest := []) (c_X9_refusalOnLamp l G d 1 x_isS_1 a b 5) (cwV 3 C.1.2.2.2.2 gX11_refusalOf_X9_refusalOnLamp rfl rfl rfl (by decide +kernel) ⟨Nat.le_of_ble_eq_true rfl, Nat.le_of_ble_eq_true rfl⟩) (x_sS0 x_isS_1) (q := (RX9, TX9, 3)) rfl rfl rfl rfl (Nat.le_of_ble_eq_true rfl) dX11_refusalOf_126 ⟨Nat.le_of_ble_eq_true rfl, Nat.le_of_ble_eq_true rfl⟩ ?_
  exact a_aret C hlocks hr dX11_refusalOf_129 rfl rfl

def f_rsw (d : xd) (a : Int32) : Nat := if x_bi (0 ≤ a ∧ a < d 2 0) = 0 then 1 else 0
set_option maxHeartbeats 1000000 in
set_option maxRecDepth 100000 in
theorem c_F_refusalOf_6 (l : Launch) (G : xG) (d : xd) (a b : Int32)  : x_M G l yX11_refusalOf wsX11_refusalOf 5 0 0 [.ref (x_b G + 0), .ref (x_e G 0 6), .int a, .int b] d (some (.ref (x_e G 1 ((f_rsw d a))))) d := by
  have iX11 : ∀ w ∈ u_ws RX11 TX11 13, w ∈ wsX11_refusalOf := by decide +kernel
  have iX9 : ∀ w ∈ u_ws RX9 TX9 3, w ∈ wsX11_refusalOf := by decide +kernel
  refine x_start (cc := cX11_refusalOf) (maxL := 4) (ret := (some (.object "LampCooperative$Refusal"))) (own := RX11) (by decide) rfl rfl (Nat.le_of_ble_eq_true rfl) (lst := [(0, .ref (x_b G + 0)), (1, .ref (x_e G 0 6)), (2, .int a), (3, .int b)]) rfl ?_
  intro p e s m args below meth c C hr hlocks
  refine a_getsSM C (by decide +kernel) dX11_refusalOf_0 ?_
  refine a_aload_n C dX11_refusalOf_3 1 rfl ?_
  refine a_callRU C (b := x_e G 0 6) (As := []) (rest := [.ref (x_e G 4 1)]) (c_E_ordinal l G d 6 (by decide)) (va_cwU 0 C.1.2.2.2.2 gX11_refusalOf_Jx29ce0_ordinal_8abf5_u430X10 rfl rfl rfl rfl (by decide +kernel) ⟨Nat.le_of_ble_eq_true rfl, Nat.le_of_ble_eq_true rfl⟩) (x_recV C (by first | assumption | omega)) rfl rfl (Nat.le_of_ble_eq_true rfl) dX11_refusalOf_4 ⟨Nat.le_of_ble_eq_true rfl, Nat.le_of_ble_eq_true rfl⟩ ?_
  refine a_top (y := (nI 6)) (by decide +kernel) ?_
  refine a_iaSM C (i := 6) rfl (by decide) dX11_refusalOf_7 ?_
  refine a_tableIn C dX11_refusalOf_8 (by decide +kernel) (by decide +kernel) (off := 122) (by decide +kernel) (tgt := 130) (by decide) ?_
  refine a_aload_n C dX11_refusalOf_130 0 rfl ?_
  refine a_getR C (k := 0) iX11 x_k0 rfl (j := 0) rfl (by decide) (by decide +kernel) dX11_refusalOf_131 ?_
  refine a_getR C (k := 1) iX9 (x_sS0 x_isS_1) rfl (j := 0) rfl (by decide) (by decide +kernel) dX11_refusalOf_134 ?_
  refine a_iload_n C dX11_refusalOf_137 2 rfl ?_
  refine a_callV C (k := 2) (As := [.int a]) (rest := []) (c_X5_has l G d 1 x_isS_1 a) (cwV 1 C.1.2.2.2.2 gX11_refusalOf_X5_has rfl rfl rfl (by decide +kernel) ⟨Nat.le_of_ble_eq_true rfl, Nat.le_of_ble_eq_true rfl⟩) (x_sS1 x_isS_1) (q := (RX5, TX5, 8)) rfl rfl rfl rfl (Nat.le_of_ble_eq_true rfl) dX11_refusalOf_138 ⟨Nat.le_of_ble_eq_true rfl, Nat.le_of_ble_eq_true rfl⟩ ?_
  refine a_if_eq C dX11_refusalOf_141 (tgt := 150) (by decide) (fun h141 => ?_) (fun h141 => ?_)
  · skip
    refine a_getsR C (i := 1) (by decide) (by decide +kernel) dX11_refusalOf_150 ?_
    exact a_aret C hlocks hr dX11_refusalOf_153 (congrArg (x_e G 1) (if_pos h141).symm) rfl
  · skip
    refine a_getsR C (i := 0) (by decide) (by decide +kernel) dX11_refusalOf_144 ?_
    refine a_goto C dX11_refusalOf_147 (tgt := 153) (by decide) ?_
    exact a_aret C hlocks hr dX11_refusalOf_153 (congrArg (x_e G 1) (if_neg h141).symm) rfl

set_option maxHeartbeats 1000000 in
set_option maxRecDepth 100000 in
theorem c_F_refusalOf_7 (l : Launch) (G : xG) (d : xd) (a b : Int32)  : x_M G l yX11_refusalOf wsX11_refusalOf 5 0 0 [.ref (x_b G + 0), .ref (x_e G 0 7), .int a, .int b] d (some (.ref (x_e G 1 ((f_rsw d a))))) d := by
  have iX11 : ∀ w ∈ u_ws RX11 TX11 13, w ∈ wsX11_refusalOf := by decide +kernel
  have iX9 : ∀ w ∈ u_ws RX9 TX9 3, w ∈ wsX11_refusalOf := by decide +kernel
  refine x_start (cc := cX11_refusalOf) (maxL := 4) (ret := (some (.object "LampCooperative$Refusal"))) (own := RX11) (by decide) rfl rfl (Nat.le_of_ble_eq_true rfl) (lst := [(0, .ref (x_b G + 0)), (1, .ref (x_e G 0 7)), (2, .int a), (3, .int b)]) rfl ?_
  intro p e s m args below meth c C hr hlocks
  refine a_getsSM C (by decide +kernel) dX11_refusalOf_0 ?_
  refine a_aload_n C dX11_refusalOf_3 1 rfl ?_
  refine a_callRU C (b := x_e G 0 7) (As := []) (rest := [.ref (x_e G 4 1)]) (c_E_ordinal l G d 7 (by decide)) (va_cwU 0 C.1.2.2.2.2 gX11_refusalOf_Jx29ce0_ordinal_8abf5_u430X10 rfl rfl rfl rfl (by decide +kernel) ⟨Nat.le_of_ble_eq_true rfl, Nat.le_of_ble_eq_true rfl⟩) (x_recV C (by first | assumption | omega)) rfl rfl (Nat.le_of_ble_eq_true rfl) dX11_refusalOf_4 ⟨Nat.le_of_ble_eq_true rfl, Nat.le_of_ble_eq_true rfl⟩ ?_
  refine a_top (y := (nI 7)) (by decide +kernel) ?_
  refine a_iaSM C (i := 7) rfl (by decide) dX11_refusalOf_7 ?_
  refine a_tableIn C dX11_refusalOf_8 (by decide +kernel) (by decide +kernel) (off := 122) (by decide +kernel) (tgt := 130) (by decide) ?_
  refine a_aload_n C dX11_refusalOf_130 0 rfl ?_
  refine a_getR C (k := 0) iX11 x_k0 rfl (j := 0) rfl (by decide) (by decide +kernel) dX11_refusalOf_131 ?_
  refine a_getR C (k := 1) iX9 (x_sS0 x_isS_1) rfl (j := 0) rfl (by decide) (by decide +kernel) dX11_refusalOf_134 ?_
  refine a_iload_n C dX11_refusalOf_137 2 rfl ?_
  refine a_callV C (k := 2) (As := [.int a]) (rest := []) (c_X5_has l G d 1 x_isS_1 a) (cwV 1 C.1.2.2.2.2 gX11_refusalOf_X5_has rfl rfl rfl (by decide +kernel) ⟨Nat.le_of_ble_eq_true rfl, Nat.le_of_ble_eq_true rfl⟩) (x_sS1 x_isS_1) (q := (RX5, TX5, 8)) rfl rfl rfl rfl (Nat.le_of_ble_eq_true rfl) dX11_refusalOf_138 ⟨Nat.le_of_ble_eq_true rfl, Nat.le_of_ble_eq_true rfl⟩ ?_
  refine a_if_eq C dX11_refusalOf_141 (tgt := 150) (by decide) (fun h141 => ?_) (fun h141 => ?_)
  · skip
    refine a_getsR C (i := 1) (by decide) (by decide +kernel) dX11_refusalOf_150 ?_
    exact a_aret C hlocks hr dX11_refusalOf_153 (congrArg (x_e G 1) (if_pos h141).symm) rfl
  · skip
    refine a_getsR C (i := 0) (by decide) (by decide +kernel) dX11_refusalOf_144 ?_
    refine a_goto C dX11_refusalOf_147 (tgt := 153) (by decide) ?_
    exact a_aret C hlocks hr dX11_refusalOf_153 (congrArg (x_e G 1) (if_neg h141).symm) rfl

set_option maxHeartbeats 1000000 in
set_option maxRecDepth 100000 in
theorem c_F_refusalOf_8 (l : Launch) (G : xG) (d : xd) (a b : Int32)  : x_M G l yX11_refusalOf wsX11_refusalOf 5 0 0 [.ref (x_b G + 0), .ref (x_e G 0 8), .int a, .int b] d (some (.ref (x_e G 1 ((f_ram d 1 a))))) d := by
  have iX11 : ∀ w ∈ u_ws RX11 TX11 13, w ∈ wsX11_refusalOf := by decide +kernel
  refine x_start (cc := cX11_refusalOf) (maxL := 4) (ret := (some (.object "LampCooperative$Refusal"))) (own := RX11) (by decide) rfl rfl (Nat.le_of_ble_eq_true rfl) (lst := [(0, .ref (x_b G + 0)), (1, .ref (x_e G 0 8)), (2, .int a), (3, .int b)]) rfl ?_
  intro p e s m args below meth c C hr hlocks
  refine a_getsSM C (by decide +kernel) dX11_refusalOf_0 ?_
  refine a_aload_n C dX11_refusalOf_3 1 rfl ?_
  refine a_callRU C (b := x_e G 0 8) (As := []) (rest := [.ref (x_e G 4 1)]) (c_E_ordinal l G d 8 (by decide)) (va_cwU 0 C.1.2.2.2.2 gX11_refusalOf_Jx29ce0_ordinal_8abf5_u430X10 rfl rfl rfl rfl (by decide +kernel) ⟨Nat.le_of_ble_eq_true rfl, Nat.le_of_ble_eq_true rfl⟩) (x_recV C (by first | assumption | omega)) rfl rfl (Nat.le_of_ble_eq_true rfl) dX11_refusalOf_4 ⟨Nat.le_of_ble_eq_true rfl, Nat.le_of_ble_eq_true rfl⟩ ?_
  refine a_top (y := (nI 8)) (by decide +kernel) ?_
  refine a_iaSM C (i := 8) rfl (by decide) dX11_refusalOf_7 ?_
  refine a_tableIn C dX11_refusalOf_8 (by decide +kernel) (by decide +kernel) (off := 146) (by decide +kernel) (tgt := 154) (by decide) ?_
  refine a_aload_n C dX11_refusalOf_154 0 rfl ?_
  refine a_getR C (k := 0) iX11 x_k0 rfl (j := 0) rfl (by decide) (by decide +kernel) dX11_refusalOf_155 ?_
  refine a_iload_n C dX11_refusalOf_158 2 rfl ?_
  refine a_callV C (k := 1) (As := [.int a]) (rest := []) (c_X9_refusalToAddMoth l G d 1 x_isS_1 a) (cwV 1 C.1.2.2.2.2 gX11_refusalOf_X9_refusalToAddMoth rfl rfl rfl (by decide +kernel) ⟨Nat.le_of_ble_eq_true rfl, Nat.le_of_ble_eq_true rfl⟩) (x_sS0 x_isS_1) (q := (RX9, TX9, 3)) rfl rfl rfl rfl (Nat.le_of_ble_eq_true rfl) dX11_refusalOf_159 ⟨Nat.le_of_ble_eq_true rfl, Nat.le_of_ble_eq_true rfl⟩ ?_
  exact a_aret C hlocks hr dX11_refusalOf_162 rfl rfl

set_option maxHeartbeats 1000000 in
set_option maxRecDepth 100000 in
theorem c_F_refusalOf_9 (l : Launch) (G : xG) (d : xd) (a b : Int32)  : x_M G l yX11_refusalOf wsX11_refusalOf 5 0 0 [.ref (x_b G + 0), .ref (x_e G 0 9), .int a, .int b] d (some (.ref (x_e G 1 ((f_rpro d 1 a))))) d := by
  have iX11 : ∀ w ∈ u_ws RX11 TX11 13, w ∈ wsX11_refusalOf := by decide +kernel
  refine x_start (cc := cX11_refusalOf) (maxL := 4) (ret := (some (.object "LampCooperative$Refusal"))) (own := RX11) (by decide) rfl rfl (Nat.le_of_ble_eq_true rfl) (lst := [(0, .ref (x_b G + 0)), (1, .ref (x_e G 0 9)), (2, .int a), (3, .int b)]) rfl ?_
  intro p e s m args below meth c C hr hlocks
  refine a_getsSM C (by decide +kernel) dX11_refusalOf_0 ?_
  refine a_aload_n C dX11_refusalOf_3 1 rfl ?_
  refine a_callRU C (b := x_e G 0 9) (As := []) (rest := [.ref (x_e G 4 1)]) (c_E_ordinal l G d 9 (by decide)) (va_cwU 0 C.1.2.2.2.2 gX11_refusalOf_Jx29ce0_ordinal_8abf5_u430X10 rfl rfl rfl rfl (by decide +kernel) ⟨Nat.le_of_ble_eq_true rfl, Nat.le_of_ble_eq_true rfl⟩) (x_recV C (by first | assumption | omega)) rfl rfl (Nat.le_of_ble_eq_true rfl) dX11_refusalOf_4 ⟨Nat.le_of_ble_eq_true rfl, Nat.le_of_ble_eq_true rfl⟩ ?_
  refine a_top (y := (nI 9)) (by decide +kernel) ?_
  refine a_iaSM C (i := 9) rfl (by decide) dX11_refusalOf_7 ?_
  refine a_tableIn C dX11_refusalOf_8 (by decide +kernel) (by decide +kernel) (off := 155) (by decide +kernel) (tgt := 163) (by decide) ?_
  refine a_aload_n C dX11_refusalOf_163 0 rfl ?_
  refine a_getR C (k := 0) iX11 x_k0 rfl (j := 0) rfl (by decide) (by decide +kernel) dX11_refusalOf_164 ?_
  refine a_iload_n C dX11_refusalOf_167 2 rfl ?_
  refine a_callV C (k := 1) (As := [.int a]) (rest := []) (c_X9_refusalToPropose l G d 1 x_isS_1 a) (cwV 1 C.1.2.2.2.2 gX11_refusalOf_X9_refusalToPropose rfl rfl rfl (by decide +kernel) ⟨Nat.le_of_ble_eq_true rfl, Nat.le_of_ble_eq_true rfl⟩) (x_sS0 x_isS_1) (q := (RX9, TX9, 3)) rfl rfl rfl rfl (Nat.le_of_ble_eq_true rfl) dX11_refusalOf_168 ⟨Nat.le_of_ble_eq_true rfl, Nat.le_of_ble_eq_true rfl⟩ ?_
  exact a_aret C hlocks hr dX11_refusalOf_171 rfl rfl

set_option maxHeartbeats 1000000 in
set_option maxRecDepth 100000 in
theorem c_F_refusalOf_10 (l : Launch) (G : xG) (d : xd) (a b : Int32)  : x_M G l yX11_refusalOf wsX11_refusalOf 5 0 0 [.ref (x_b G + 0), .ref (x_e G 0 10), .int a, .int b] d (some (.ref (x_e G 1 ((0))))) d := by
  refine x_start (cc := cX11_refusalOf) (maxL := 4) (ret := (some (.object "LampCooperative$Refusal"))) (own := RX11) (by decide) rfl rfl (Nat.le_of_ble_eq_true rfl) (lst := [(0, .ref (x_b G + 0)), (1, .ref (x_e G 0 10)), (2, .int a), (3, .int b)]) rfl ?_
  intro p e s m args below meth c C hr hlocks
  refine a_getsSM C (by decide +kernel) dX11_refusalOf_0 ?_
  refine a_aload_n C dX11_refusalOf_3 1 rfl ?_
  refine a_callRU C (b := x_e G 0 10) (As := []) (rest := [.ref (x_e G 4 1)]) (c_E_ordinal l G d 10 (by decide)) (va_cwU 0 C.1.2.2.2.2 gX11_refusalOf_Jx29ce0_ordinal_8abf5_u430X10 rfl rfl rfl rfl (by decide +kernel) ⟨Nat.le_of_ble_eq_true rfl, Nat.le_of_ble_eq_true rfl⟩) (x_recV C (by first | assumption | omega)) rfl rfl (Nat.le_of_ble_eq_true rfl) dX11_refusalOf_4 ⟨Nat.le_of_ble_eq_true rfl, Nat.le_of_ble_eq_true rfl⟩ ?_
  refine a_top (y := (nI 10)) (by decide +kernel) ?_
  refine a_iaSM C (i := 10) rfl (by decide) dX11_refusalOf_7 ?_
  refine a_tableOut C dX11_refusalOf_8 (by decide +kernel) (tgt := 190) (by decide) ?_
  refine a_getsR C (i := 0) (by decide) (by decide +kernel) dX11_refusalOf_190 ?_
  exact a_aret C hlocks hr dX11_refusalOf_193 rfl rfl

set_option maxHeartbeats 1000000 in
set_option maxRecDepth 100000 in
theorem c_F_refusalOf_11 (l : Launch) (G : xG) (d : xd) (a b : Int32)  : x_M G l yX11_refusalOf wsX11_refusalOf 5 0 0 [.ref (x_b G + 0), .ref (x_e G 0 11), .int a, .int b] d (some (.ref (x_e G 1 ((f_rpay d 1))))) d := by
  have iX11 : ∀ w ∈ u_ws RX11 TX11 13, w ∈ wsX11_refusalOf := by decide +kernel
  refine x_start (cc := cX11_refusalOf) (maxL := 4) (ret := (some (.object "LampCooperative$Refusal"))) (own := RX11) (by decide) rfl rfl (Nat.le_of_ble_eq_true rfl) (lst := [(0, .ref (x_b G + 0)), (1, .ref (x_e G 0 11)), (2, .int a), (3, .int b)]) rfl ?_
  intro p e s m args below meth c C hr hlocks
  refine a_getsSM C (by decide +kernel) dX11_refusalOf_0 ?_
  refine a_aload_n C dX11_refusalOf_3 1 rfl ?_
  refine a_callRU C (b := x_e G 0 11) (As := []) (rest := [.ref (x_e G 4 1)]) (c_E_ordinal l G d 11 (by decide)) (va_cwU 0 C.1.2.2.2.2 gX11_refusalOf_Jx29ce0_ordinal_8abf5_u430X10 rfl rfl rfl rfl (by decide +kernel) ⟨Nat.le_of_ble_eq_true rfl, Nat.le_of_ble_eq_true rfl⟩) (x_recV C (by first | assumption | omega)) rfl rfl (Nat.le_of_ble_eq_true rfl) dX11_refusalOf_4 ⟨Nat.le_of_ble_eq_true rfl, Nat.le_of_ble_eq_true rfl⟩ ?_
  refine a_top (y := (nI 11)) (by decide +kernel) ?_
  refine a_iaSM C (i := 11) rfl (by decide) dX11_refusalOf_7 ?_
  refine a_tableIn C dX11_refusalOf_8 (by decide +kernel) (by decide +kernel) (off := 164) (by decide +kernel) (tgt := 172) (by decide) ?_
  refine a_aload_n C dX11_refusalOf_172 0 rfl ?_
  refine a_getR C (k := 0) iX11 x_k0 rfl (j := 0) rfl (by decide) (by decide +kernel) dX11_refusalOf_173 ?_
  refine a_callV C (k := 1) (As := []) (rest := []) (c_X9_refusalToPay l G d 1 x_isS_1) (cwV 0 C.1.2.2.2.2 gX11_refusalOf_X9_refusalToPay rfl rfl rfl (by decide +kernel) ⟨Nat.le_of_ble_eq_true rfl, Nat.le_of_ble_eq_true rfl⟩) (x_sS0 x_isS_1) (q := (RX9, TX9, 3)) rfl rfl rfl rfl (Nat.le_of_ble_eq_true rfl) dX11_refusalOf_176 ⟨Nat.le_of_ble_eq_true rfl, Nat.le_of_ble_eq_true rfl⟩ ?_
  exact a_aret C hlocks hr dX11_refusalOf_179 rfl rfl

set_option maxHeartbeats 1000000 in
set_option maxRecDepth 100000 in
theorem c_F_refusalOf_12 (l : Launch) (G : xG) (d : xd) (a b : Int32) (n : Nat) (hn : d 2 0 = nI n) (h8 : n ≤ 8)  : x_M G l yX11_refusalOf wsX11_refusalOf 5 0 0 [.ref (x_b G + 0), .ref (x_e G 0 12), .int a, .int b] d (some (.ref (x_e G 1 ((f_rbuy d 1 a b))))) d := by
  have iX11 : ∀ w ∈ u_ws RX11 TX11 13, w ∈ wsX11_refusalOf := by decide +kernel
  refine x_start (cc := cX11_refusalOf) (maxL := 4) (ret := (some (.object "LampCooperative$Refusal"))) (own := RX11) (by decide) rfl rfl (Nat.le_of_ble_eq_true rfl) (lst := [(0, .ref (x_b G + 0)), (1, .ref (x_e G 0 12)), (2, .int a), (3, .int b)]) rfl ?_
  intro p e s m args below meth c C hr hlocks
  refine a_getsSM C (by decide +kernel) dX11_refusalOf_0 ?_
  refine a_aload_n C dX11_refusalOf_3 1 rfl ?_
  refine a_callRU C (b := x_e G 0 12) (As := []) (rest := [.ref (x_e G 4 1)]) (c_E_ordinal l G d 12 (by decide)) (va_cwU 0 C.1.2.2.2.2 gX11_refusalOf_Jx29ce0_ordinal_8abf5_u430X10 rfl rfl rfl rfl (by decide +kernel) ⟨Nat.le_of_ble_eq_true rfl, Nat.le_of_ble_eq_true rfl⟩) (x_recV C (by first | assumption | omega)) rfl rfl (Nat.le_of_ble_eq_true rfl) dX11_refusalOf_4 ⟨Nat.le_of_ble_eq_true rfl, Nat.le_of_ble_eq_true rfl⟩ ?_
  refine a_top (y := (nI 12)) (by decide +kernel) ?_
  refine a_iaSM C (i := 12) rfl (by decide) dX11_refusalOf_7 ?_
  refine a_tableIn C dX11_refusalOf_8 (by decide +kernel) (by decide +kernel) (off := 172) (by decide +kernel) (tgt := 180) (by decide) ?_
  refine a_aload_n C dX11_refusalOf_180 0 rfl ?_
  refine a_getR C (k := 0) iX11 x_k0 rfl (j := 0) rfl (by decide) (by decide +kernel) dX11_refusalOf_181 ?_
  refine a_iload_n C dX11_refusalOf_184 2 rfl ?_
  refine a_iload_n C dX11_refusalOf_185 3 rfl ?_
  refine a_callV C (k := 1) (As := [.int a, .int b]) (rest := []) (c_X9_refusalToBuy l G d 1 n x_isS_1 hn h8 a b) (cwV 2 C.1.2.2.2.2 gX11_refusalOf_X9_refusalToBuy rfl rfl rfl (by decide +kernel) ⟨Nat.le_of_ble_eq_true rfl, Nat.le_of_ble_eq_true rfl⟩) (x_sS0 x_isS_1) (q := (RX9, TX9, 3)) rfl rfl rfl rfl (Nat.le_of_ble_eq_true rfl) dX11_refusalOf_186 ⟨Nat.le_of_ble_eq_true rfl, Nat.le_of_ble_eq_true rfl⟩ ?_
  exact a_aret C hlocks hr dX11_refusalOf_189 rfl rfl

set_option maxHeartbeats 1000000 in
set_option maxRecDepth 100000 in
theorem c_F_perform_0 (l : Launch) (G : xG) (d : xd) (a b : Int32) (n : Nat) (hn : d 2 0 = nI n) (h8 : n < 8) : x_M G l yX11_perform wsX11_perform 6 0 0 [.ref (x_b G + 0), .ref (x_e G 0 0), .int a, .int b] d none (f_app d 1 n a b) := by
  have iX11 : ∀ w ∈ u_ws RX11 TX11 13, w ∈ wsX11_perform := by decide +kernel
  have iX9 : ∀ w ∈ u_ws RX9 TX9 3, w ∈ wsX11_perform := by decide +kernel
  refine x_start (cc := cX11_perform) (maxL := 4) (ret := none) (own := RX11) (by decide) rfl rfl (Nat.le_of_ble_eq_true rfl) (lst := [(0, .ref (x_b G + 0)), (1, .ref (x_e G 0 0)), (2, .int a), (3, .int b)]) rfl ?_
  intro p e s m args below meth c C hr hlocks
  refine a_getsSM C (by decide +kernel) dX11_perform_0 ?_
  refine a_aload_n C dX11_perform_3 1 rfl ?_
  refine a_callRU C (b := x_e G 0 0) (As := []) (rest := [.ref (x_e G 4 1)]) (c_E_ordinal l G d 0 (by decide)) (va_cwU 0 C.1.2.2.2.2 gX11_perform_Jx29ce0_ordinal_8abf5_u430X10 rfl rfl rfl rfl (by decide +kernel) ⟨Nat.le_of_ble_eq_true rfl, Nat.le_of_ble_eq_true rfl⟩) (x_recV C (by first | assumption | omega)) rfl rfl (Nat.le_of_ble_eq_true rfl) dX11_perform_4 ⟨Nat.le_of_ble_eq_true rfl, Nat.le_of_ble_eq_true rfl⟩ ?_
  refine a_top (y := (nI 0)) (by decide +kernel) ?_
  refine a_iaSM C (i := 0) rfl (by decide) dX11_perform_7 ?_
  refine a_tableIn C dX11_perform_8 (by decide +kernel) (by decide +kernel) (off := 68) (by decide +kernel) (tgt := 76) (by decide) ?_
  refine a_aload_n C dX11_perform_76 0 rfl ?_
  refine a_getR C (k := 0) iX11 x_k0 rfl (j := 0) rfl (by decide) (by decide +kernel) dX11_perform_77 ?_
  refine a_getR C (k := 1) iX9 (x_sS0 x_isS_1) rfl (j := 0) rfl (by decide) (by decide +kernel) dX11_perform_80 ?_
  refine a_iload_n C dX11_perform_83 2 rfl ?_
  refine a_iload_n C dX11_perform_84 3 rfl ?_
  refine a_callV C (k := 2) (As := [.int a, .int b]) (rest := []) (c_X5_append l G d 1 n x_isS_1 hn h8 a b) (cwV 2 C.1.2.2.2.2 gX11_perform_X5_append rfl rfl rfl (by decide +kernel) ⟨Nat.le_of_ble_eq_true rfl, Nat.le_of_ble_eq_true rfl⟩) (x_sS1 x_isS_1) (q := (RX5, TX5, 8)) rfl rfl rfl rfl (Nat.le_of_ble_eq_true rfl) dX11_perform_85 ⟨Nat.le_of_ble_eq_true rfl, Nat.le_of_ble_eq_true rfl⟩ ?_
  refine a_pop C dX11_perform_88 rfl ?_
  refine a_goto C dX11_perform_89 (tgt := 266) (by decide) ?_
  exact a_vret C hlocks hr dX11_perform_266 rfl

set_option maxHeartbeats 1000000 in
set_option maxRecDepth 100000 in
theorem c_F_perform_1 (l : Launch) (G : xG) (d : xd) (b : Int32) (i n : Nat) (hn : d 2 0 = nI n) (h8 : n ≤ 8) (hi : i < n) (q : Nat) (hq : d 10 0 = nI q) (h6 : q ≤ 6) : x_M G l yX11_perform wsX11_perform 6 0 0 [.ref (x_b G + 0), .ref (x_e G 0 1), .int (nI i), .int b] d none (f_drop d 1 n i q) := by
  have iX11 : ∀ w ∈ u_ws RX11 TX11 13, w ∈ wsX11_perform := by decide +kernel
  refine x_start (cc := cX11_perform) (maxL := 4) (ret := none) (own := RX11) (by decide) rfl rfl (Nat.le_of_ble_eq_true rfl) (lst := [(0, .ref (x_b G + 0)), (1, .ref (x_e G 0 1)), (2, .int (nI i)), (3, .int b)]) rfl ?_
  intro p e s m args below meth c C hr hlocks
  refine a_getsSM C (by decide +kernel) dX11_perform_0 ?_
  refine a_aload_n C dX11_perform_3 1 rfl ?_
  refine a_callRU C (b := x_e G 0 1) (As := []) (rest := [.ref (x_e G 4 1)]) (c_E_ordinal l G d 1 (by decide)) (va_cwU 0 C.1.2.2.2.2 gX11_perform_Jx29ce0_ordinal_8abf5_u430X10 rfl rfl rfl rfl (by decide +kernel) ⟨Nat.le_of_ble_eq_true rfl, Nat.le_of_ble_eq_true rfl⟩) (x_recV C (by first | assumption | omega)) rfl rfl (Nat.le_of_ble_eq_true rfl) dX11_perform_4 ⟨Nat.le_of_ble_eq_true rfl, Nat.le_of_ble_eq_true rfl⟩ ?_
  refine a_top (y := (nI 1)) (by decide +kernel) ?_
  refine a_iaSM C (i := 1) rfl (by decide) dX11_perform_7 ?_
  refine a_tableIn C dX11_perform_8 (by decide +kernel) (by decide +kernel) (off := 84) (by decide +kernel) (tgt := 92) (by decide) ?_
  refine a_aload_n C dX11_perform_92 0 rfl ?_
  refine a_getR C (k := 0) iX11 x_k0 rfl (j := 0) rfl (by decide) (by decide +kernel) dX11_perform_93 ?_
  refine a_iload_n C dX11_perform_96 2 rfl ?_
  refine a_callV C (k := 1) (As := [.int (nI i)]) (rest := []) (c_X9_dropLamp l G d 1 n x_isS_1 hn h8 i hi q hq h6) (cwV 1 C.1.2.2.2.2 gX11_perform_X9_dropLamp rfl rfl rfl (by decide +kernel) ⟨Nat.le_of_ble_eq_true rfl, Nat.le_of_ble_eq_true rfl⟩) (x_sS0 x_isS_1) (q := (RX9, TX9, 3)) rfl rfl rfl rfl (Nat.le_of_ble_eq_true rfl) dX11_perform_97 ⟨Nat.le_of_ble_eq_true rfl, Nat.le_of_ble_eq_true rfl⟩ ?_
  refine a_pop C dX11_perform_100 rfl ?_
  refine a_goto C dX11_perform_101 (tgt := 266) (by decide) ?_
  exact a_vret C hlocks hr dX11_perform_266 rfl

set_option maxHeartbeats 1000000 in
set_option maxRecDepth 100000 in
theorem c_F_perform_2 (l : Launch) (G : xG) (d : xd) (b : Int32) (n : Nat) (hn : d 2 0 = nI n) (h8 : n ≤ 8) (a0 : Nat) (sh : Nat → Nat) (hs : ∀ j, j < n → d 4 j = nI (sh j)) (hs9 : ∀ j, j < n → sh j ≤ 9) (hS : 1 ≤ f_sn sh n) (ha0 : a0 < 100000)  : x_M G l yX11_perform wsX11_perform 6 0 0 [.ref (x_b G + 0), .ref (x_e G 0 2), .int (nI a0), .int b] d none (f_pour d 159 1 n a0 sh) := by
  have iX11 : ∀ w ∈ u_ws RX11 TX11 13, w ∈ wsX11_perform := by decide +kernel
  refine x_start (cc := cX11_perform) (maxL := 4) (ret := none) (own := RX11) (by decide) rfl rfl (Nat.le_of_ble_eq_true rfl) (lst := [(0, .ref (x_b G + 0)), (1, .ref (x_e G 0 2)), (2, .int (nI a0)), (3, .int b)]) rfl ?_
  intro p e s m args below meth c C hr hlocks
  refine a_getsSM C (by decide +kernel) dX11_perform_0 ?_
  refine a_aload_n C dX11_perform_3 1 rfl ?_
  refine a_callRU C (b := x_e G 0 2) (As := []) (rest := [.ref (x_e G 4 1)]) (c_E_ordinal l G d 2 (by decide)) (va_cwU 0 C.1.2.2.2.2 gX11_perform_Jx29ce0_ordinal_8abf5_u430X10 rfl rfl rfl rfl (by decide +kernel) ⟨Nat.le_of_ble_eq_true rfl, Nat.le_of_ble_eq_true rfl⟩) (x_recV C (by first | assumption | omega)) rfl rfl (Nat.le_of_ble_eq_true rfl) dX11_perform_4 ⟨Nat.le_of_ble_eq_true rfl, Nat.le_of_ble_eq_true rfl⟩ ?_
  refine a_top (y := (nI 2)) (by decide +kernel) ?_
  refine a_iaSM C (i := 2) rfl (by decide) dX11_perform_7 ?_
  refine a_tableIn C dX11_perform_8 (by decide +kernel) (by decide +kernel) (off := 96) (by decide +kernel) (tgt := 104) (by decide) ?_
  refine a_aload_n C dX11_perform_104 0 rfl ?_
  refine a_getR C (k := 0) iX11 x_k0 rfl (j := 0) rfl (by decide) (by decide +kernel) dX11_perform_105 ?_
  refine a_iload_n C dX11_perform_108 2 rfl ?_
  refine a_aload_n C dX11_perform_109 0 rfl ?_
  refine a_getR C (k := 0) iX11 x_k0 rfl (j := 6) rfl (by decide) (by decide +kernel) dX11_perform_110 ?_
  refine a_callV C (k := 1) (As := [.int (nI a0), .ref (x_b G + 159)]) (rest := []) (c_X9_pourOil l G d 159 1 n a0 sh x_isA_0 x_isS_1 hn h8 hs hs9 hS ha0) (cwV 2 C.1.2.2.2.2 gX11_perform_X9_pourOil rfl rfl rfl (by decide +kernel) ⟨Nat.le_of_ble_eq_true rfl, Nat.le_of_ble_eq_true rfl⟩) (x_sS0 x_isS_1) (q := (RX9, TX9, 3)) rfl rfl rfl rfl (Nat.le_of_ble_eq_true rfl) dX11_perform_113 ⟨Nat.le_of_ble_eq_true rfl, Nat.le_of_ble_eq_true rfl⟩ ?_
  refine a_pop C dX11_perform_116 rfl ?_
  refine a_goto C dX11_perform_117 (tgt := 266) (by decide) ?_
  exact a_vret C hlocks hr dX11_perform_266 rfl

set_option maxHeartbeats 1000000 in
set_option maxRecDepth 100000 in
theorem c_F_perform_3 (l : Launch) (G : xG) (d : xd) (a b : Int32) : x_M G l yX11_perform wsX11_perform 6 0 0 [.ref (x_b G + 0), .ref (x_e G 0 3), .int a, .int b] d none (f_don d 1 a) := by
  have iX11 : ∀ w ∈ u_ws RX11 TX11 13, w ∈ wsX11_perform := by decide +kernel
  refine x_start (cc := cX11_perform) (maxL := 4) (ret := none) (own := RX11) (by decide) rfl rfl (Nat.le_of_ble_eq_true rfl) (lst := [(0, .ref (x_b G + 0)), (1, .ref (x_e G 0 3)), (2, .int a), (3, .int b)]) rfl ?_
  intro p e s m args below meth c C hr hlocks
  refine a_getsSM C (by decide +kernel) dX11_perform_0 ?_
  refine a_aload_n C dX11_perform_3 1 rfl ?_
  refine a_callRU C (b := x_e G 0 3) (As := []) (rest := [.ref (x_e G 4 1)]) (c_E_ordinal l G d 3 (by decide)) (va_cwU 0 C.1.2.2.2.2 gX11_perform_Jx29ce0_ordinal_8abf5_u430X10 rfl rfl rfl rfl (by decide +kernel) ⟨Nat.le_of_ble_eq_true rfl, Nat.le_of_ble_eq_true rfl⟩) (x_recV C (by first | assumption | omega)) rfl rfl (Nat.le_of_ble_eq_true rfl) dX11_perform_4 ⟨Nat.le_of_ble_eq_true rfl, Nat.le_of_ble_eq_true rfl⟩ ?_
  refine a_top (y := (nI 3)) (by decide +kernel) ?_
  refine a_iaSM C (i := 3) rfl (by decide) dX11_perform_7 ?_
  refine a_tableIn C dX11_perform_8 (by decide +kernel) (by decide +kernel) (off := 112) (by decide +kernel) (tgt := 120) (by decide) ?_
  refine a_aload_n C dX11_perform_120 0 rfl ?_
  refine a_getR C (k := 0) iX11 x_k0 rfl (j := 0) rfl (by decide) (by decide +kernel) dX11_perform_121 ?_
  refine a_iload_n C dX11_perform_124 2 rfl ?_
  refine a_callV C (k := 1) (As := [.int a]) (rest := []) (c_X9_takeDonation l G d 1 x_isS_1 a) (cwV 1 C.1.2.2.2.2 gX11_perform_X9_takeDonation rfl rfl rfl (by decide +kernel) ⟨Nat.le_of_ble_eq_true rfl, Nat.le_of_ble_eq_true rfl⟩) (x_sS0 x_isS_1) (q := (RX9, TX9, 3)) rfl rfl rfl rfl (Nat.le_of_ble_eq_true rfl) dX11_perform_125 ⟨Nat.le_of_ble_eq_true rfl, Nat.le_of_ble_eq_true rfl⟩ ?_
  refine a_pop C dX11_perform_128 rfl ?_
  refine a_goto C dX11_perform_129 (tgt := 266) (by decide) ?_
  exact a_vret C hlocks hr dX11_perform_266 rfl

set_option maxHeartbeats 1000000 in
set_option maxRecDepth 100000 in
theorem c_F_perform_4 (l : Launch) (G : xG) (d : xd) (b : Int32) (i n : Nat) (hn : d 2 0 = nI n) (h8 : n ≤ 8) (hi : i < n)  : x_M G l yX11_perform wsX11_perform 6 0 0 [.ref (x_b G + 0), .ref (x_e G 0 4), .int (nI i), .int b] d none (f_mvw d 1 i b) := by
  have iX11 : ∀ w ∈ u_ws RX11 TX11 13, w ∈ wsX11_perform := by decide +kernel
  refine x_start (cc := cX11_perform) (maxL := 4) (ret := none) (own := RX11) (by decide) rfl rfl (Nat.le_of_ble_eq_true rfl) (lst := [(0, .ref (x_b G + 0)), (1, .ref (x_e G 0 4)), (2, .int (nI i)), (3, .int b)]) rfl ?_
  intro p e s m args below meth c C hr hlocks
  refine a_getsSM C (by decide +kernel) dX11_perform_0 ?_
  refine a_aload_n C dX11_perform_3 1 rfl ?_
  refine a_callRU C (b := x_e G 0 4) (As := []) (rest := [.ref (x_e G 4 1)]) (c_E_ordinal l G d 4 (by decide)) (va_cwU 0 C.1.2.2.2.2 gX11_perform_Jx29ce0_ordinal_8abf5_u430X10 rfl rfl rfl rfl (by decide +kernel) ⟨Nat.le_of_ble_eq_true rfl, Nat.le_of_ble_eq_true rfl⟩) (x_recV C (by first | assumption | omega)) rfl rfl (Nat.le_of_ble_eq_true rfl) dX11_perform_4 ⟨Nat.le_of_ble_eq_true rfl, Nat.le_of_ble_eq_true rfl⟩ ?_
  refine a_top (y := (nI 4)) (by decide +kernel) ?_
  refine a_iaSM C (i := 4) rfl (by decide) dX11_perform_7 ?_
  refine a_tableIn C dX11_perform_8 (by decide +kernel) (by decide +kernel) (off := 124) (by decide +kernel) (tgt := 132) (by decide) ?_
  refine a_aload_n C dX11_perform_132 0 rfl ?_
  refine a_getR C (k := 0) iX11 x_k0 rfl (j := 0) rfl (by decide) (by decide +kernel) dX11_perform_133 ?_
  refine a_iload_n C dX11_perform_136 2 rfl ?_
  refine a_iload_n C dX11_perform_137 3 rfl ?_
  refine a_callV C (k := 1) (As := [.int (nI i), .int b]) (rest := []) (c_X9_moveWickToLamp l G d 1 i x_isS_1 (by omega) b) (cwV 2 C.1.2.2.2.2 gX11_perform_X9_moveWickToLamp rfl rfl rfl (by decide +kernel) ⟨Nat.le_of_ble_eq_true rfl, Nat.le_of_ble_eq_true rfl⟩) (x_sS0 x_isS_1) (q := (RX9, TX9, 3)) rfl rfl rfl rfl (Nat.le_of_ble_eq_true rfl) dX11_perform_138 ⟨Nat.le_of_ble_eq_true rfl, Nat.le_of_ble_eq_true rfl⟩ ?_
  refine a_pop C dX11_perform_141 rfl ?_
  refine a_goto C dX11_perform_142 (tgt := 266) (by decide) ?_
  exact a_vret C hlocks hr dX11_perform_266 rfl

set_option maxHeartbeats 1000000 in
set_option maxRecDepth 100000 in
theorem c_F_perform_5 (l : Launch) (G : xG) (d : xd) (b : Int32) (i n : Nat) (hn : d 2 0 = nI n) (h8 : n ≤ 8) (hi : i < n)  : x_M G l yX11_perform wsX11_perform 6 0 0 [.ref (x_b G + 0), .ref (x_e G 0 5), .int (nI i), .int b] d none (x_p d 5 i b) := by
  have iX11 : ∀ w ∈ u_ws RX11 TX11 13, w ∈ wsX11_perform := by decide +kernel
  have iX5 : ∀ w ∈ u_ws RX5 TX5 8, w ∈ wsX11_perform := by decide +kernel
  have iX9 : ∀ w ∈ u_ws RX9 TX9 3, w ∈ wsX11_perform := by decide +kernel
  refine x_start (cc := cX11_perform) (maxL := 4) (ret := none) (own := RX11) (by decide) rfl rfl (Nat.le_of_ble_eq_true rfl) (lst := [(0, .ref (x_b G + 0)), (1, .ref (x_e G 0 5)), (2, .int (nI i)), (3, .int b)]) rfl ?_
  intro p e s m args below meth c C hr hlocks
  refine a_getsSM C (by decide +kernel) dX11_perform_0 ?_
  refine a_aload_n C dX11_perform_3 1 rfl ?_
  refine a_callRU C (b := x_e G 0 5) (As := []) (rest := [.ref (x_e G 4 1)]) (c_E_ordinal l G d 5 (by decide)) (va_cwU 0 C.1.2.2.2.2 gX11_perform_Jx29ce0_ordinal_8abf5_u430X10 rfl rfl rfl rfl (by decide +kernel) ⟨Nat.le_of_ble_eq_true rfl, Nat.le_of_ble_eq_true rfl⟩) (x_recV C (by first | assumption | omega)) rfl rfl (Nat.le_of_ble_eq_true rfl) dX11_perform_4 ⟨Nat.le_of_ble_eq_true rfl, Nat.le_of_ble_eq_true rfl⟩ ?_
  refine a_top (y := (nI 5)) (by decide +kernel) ?_
  refine a_iaSM C (i := 5) rfl (by decide) dX11_perform_7 ?_
  refine a_tableIn C dX11_perform_8 (by decide +kernel) (by decide +kernel) (off := 137) (by decide +kernel) (tgt := 145) (by decide) ?_
  refine a_aload_n C dX11_perform_145 0 rfl ?_
  refine a_getR C (k := 0) iX11 x_k0 rfl (j := 0) rfl (by decide) (by decide +kernel) dX11_perform_146 ?_
  refine a_getR C (k := 1) iX9 (x_sS0 x_isS_1) rfl (j := 0) rfl (by decide) (by decide +kernel) dX11_perform_149 ?_
  refine a_getR C (k := 2) iX5 (x_sS1 x_isS_1) rfl (j := 3) rfl (by decide) (by decide +kernel) dX11_perform_152 ?_
  refine a_iload_n C dX11_perform_155 2 rfl ?_
  refine a_iload_n C dX11_perform_156 3 rfl ?_
  refine a_iastN C (k := 5) (x_sS4 x_isS_1) (i := i) rfl (by omega) (by first | decide | omega) dX11_perform_157 ?_
  refine a_goto C dX11_perform_158 (tgt := 266) (by decide) ?_
  exact a_vret C hlocks hr dX11_perform_266 rfl

set_option maxHeartbeats 1000000 in
set_option maxRecDepth 100000 in
theorem c_F_perform_6 (l : Launch) (G : xG) (d : xd) (b : Int32) (i n : Nat) (hn : d 2 0 = nI n) (h8 : n ≤ 8) (hi : i < n)  : x_M G l yX11_perform wsX11_perform 6 0 0 [.ref (x_b G + 0), .ref (x_e G 0 6), .int (nI i), .int b] d none (x_p d 6 i 1) := by
  have iX11 : ∀ w ∈ u_ws RX11 TX11 13, w ∈ wsX11_perform := by decide +kernel
  have iX5 : ∀ w ∈ u_ws RX5 TX5 8, w ∈ wsX11_perform := by decide +kernel
  have iX9 : ∀ w ∈ u_ws RX9 TX9 3, w ∈ wsX11_perform := by decide +kernel
  refine x_start (cc := cX11_perform) (maxL := 4) (ret := none) (own := RX11) (by decide) rfl rfl (Nat.le_of_ble_eq_true rfl) (lst := [(0, .ref (x_b G + 0)), (1, .ref (x_e G 0 6)), (2, .int (nI i)), (3, .int b)]) rfl ?_
  intro p e s m args below meth c C hr hlocks
  refine a_getsSM C (by decide +kernel) dX11_perform_0 ?_
  refine a_aload_n C dX11_perform_3 1 rfl ?_
  refine a_callRU C (b := x_e G 0 6) (As := []) (rest := [.ref (x_e G 4 1)]) (c_E_ordinal l G d 6 (by decide)) (va_cwU 0 C.1.2.2.2.2 gX11_perform_Jx29ce0_ordinal_8abf5_u430X10 rfl rfl rfl rfl (by decide +kernel) ⟨Nat.le_of_ble_eq_true rfl, Nat.le_of_ble_eq_true rfl⟩) (x_recV C (by first | assumption | omega)) rfl rfl (Nat.le_of_ble_eq_true rfl) dX11_perform_4 ⟨Nat.le_of_ble_eq_true rfl, Nat.le_of_ble_eq_true rfl⟩ ?_
  refine a_top (y := (nI 6)) (by decide +kernel) ?_
  refine a_iaSM C (i := 6) rfl (by decide) dX11_perform_7 ?_
  refine a_tableIn C dX11_perform_8 (by decide +kernel) (by decide +kernel) (off := 153) (by decide +kernel) (tgt := 161) (by decide) ?_
  refine a_aload_n C dX11_perform_161 0 rfl ?_
  refine a_getR C (k := 0) iX11 x_k0 rfl (j := 0) rfl (by decide) (by decide +kernel) dX11_perform_162 ?_
  refine a_getR C (k := 1) iX9 (x_sS0 x_isS_1) rfl (j := 0) rfl (by decide) (by decide +kernel) dX11_perform_165 ?_
  refine a_getR C (k := 2) iX5 (x_sS1 x_isS_1) rfl (j := 4) rfl (by decide) (by decide +kernel) dX11_perform_168 ?_
  refine a_iload_n C dX11_perform_171 2 rfl ?_
  refine a_iconst C dX11_perform_172 (v := 1) (by decide) ?_
  refine a_zastN C (k := 6) (x_sS5 x_isS_1) (i := i) rfl (by omega) (by first | decide | omega) (by decide) dX11_perform_173 ?_
  refine a_goto C dX11_perform_174 (tgt := 266) (by decide) ?_
  exact a_vret C hlocks hr dX11_perform_266 rfl

set_option maxHeartbeats 1000000 in
set_option maxRecDepth 100000 in
theorem c_F_perform_7 (l : Launch) (G : xG) (d : xd) (b : Int32) (i n : Nat) (hn : d 2 0 = nI n) (h8 : n ≤ 8) (hi : i < n)  : x_M G l yX11_perform wsX11_perform 6 0 0 [.ref (x_b G + 0), .ref (x_e G 0 7), .int (nI i), .int b] d none (x_p d 6 i 0) := by
  have iX11 : ∀ w ∈ u_ws RX11 TX11 13, w ∈ wsX11_perform := by decide +kernel
  have iX5 : ∀ w ∈ u_ws RX5 TX5 8, w ∈ wsX11_perform := by decide +kernel
  have iX9 : ∀ w ∈ u_ws RX9 TX9 3, w ∈ wsX11_perform := by decide +kernel
  refine x_start (cc := cX11_perform) (maxL := 4) (ret := none) (own := RX11) (by decide) rfl rfl (Nat.le_of_ble_eq_true rfl) (lst := [(0, .ref (x_b G + 0)), (1, .ref (x_e G 0 7)), (2, .int (nI i)), (3, .int b)]) rfl ?_
  intro p e s m args below meth c C hr hlocks
  refine a_getsSM C (by decide +kernel) dX11_perform_0 ?_
  refine a_aload_n C dX11_perform_3 1 rfl ?_
  refine a_callRU C (b := x_e G 0 7) (As := []) (rest := [.ref (x_e G 4 1)]) (c_E_ordinal l G d 7 (by decide)) (va_cwU 0 C.1.2.2.2.2 gX11_perform_Jx29ce0_ordinal_8abf5_u430X10 rfl rfl rfl rfl (by decide +kernel) ⟨Nat.le_of_ble_eq_true rfl, Nat.le_of_ble_eq_true rfl⟩) (x_recV C (by first | assumption | omega)) rfl rfl (Nat.le_of_ble_eq_true rfl) dX11_perform_4 ⟨Nat.le_of_ble_eq_true rfl, Nat.le_of_ble_eq_true rfl⟩ ?_
  refine a_top (y := (nI 7)) (by decide +kernel) ?_
  refine a_iaSM C (i := 7) rfl (by decide) dX11_perform_7 ?_
  refine a_tableIn C dX11_perform_8 (by decide +kernel) (by decide +kernel) (off := 169) (by decide +kernel) (tgt := 177) (by decide) ?_
  refine a_aload_n C dX11_perform_177 0 rfl ?_
  refine a_getR C (k := 0) iX11 x_k0 rfl (j := 0) rfl (by decide) (by decide +kernel) dX11_perform_178 ?_
  refine a_getR C (k := 1) iX9 (x_sS0 x_isS_1) rfl (j := 0) rfl (by decide) (by decide +kernel) dX11_perform_181 ?_
  refine a_getR C (k := 2) iX5 (x_sS1 x_isS_1) rfl (j := 4) rfl (by decide) (by decide +kernel) dX11_perform_184 ?_
  refine a_iload_n C dX11_perform_187 2 rfl ?_
  refine a_iconst C dX11_perform_188 (v := 0) (by decide) ?_
  refine a_zastN C (k := 6) (x_sS5 x_isS_1) (i := i) rfl (by omega) (by first | decide | omega) (by decide) dX11_perform_189 ?_
  refine a_goto C dX11_perform_190 (tgt := 266) (by decide) ?_
  exact a_vret C hlocks hr dX11_perform_266 rfl

set_option maxHeartbeats 1000000 in
set_option maxRecDepth 100000 in
theorem c_F_perform_8 (l : Launch) (G : xG) (d : xd) (a b : Int32) (q : Nat) (hq : d 10 0 = nI q) (h5 : q < 6) : x_M G l yX11_perform wsX11_perform 6 0 0 [.ref (x_b G + 0), .ref (x_e G 0 8), .int a, .int b] d none (f_appm d 1 q a) := by
  have iX11 : ∀ w ∈ u_ws RX11 TX11 13, w ∈ wsX11_perform := by decide +kernel
  have iX9 : ∀ w ∈ u_ws RX9 TX9 3, w ∈ wsX11_perform := by decide +kernel
  refine x_start (cc := cX11_perform) (maxL := 4) (ret := none) (own := RX11) (by decide) rfl rfl (Nat.le_of_ble_eq_true rfl) (lst := [(0, .ref (x_b G + 0)), (1, .ref (x_e G 0 8)), (2, .int a), (3, .int b)]) rfl ?_
  intro p e s m args below meth c C hr hlocks
  refine a_getsSM C (by decide +kernel) dX11_perform_0 ?_
  refine a_aload_n C dX11_perform_3 1 rfl ?_
  refine a_callRU C (b := x_e G 0 8) (As := []) (rest := [.ref (x_e G 4 1)]) (c_E_ordinal l G d 8 (by decide)) (va_cwU 0 C.1.2.2.2.2 gX11_perform_Jx29ce0_ordinal_8abf5_u430X10 rfl rfl rfl rfl (by decide +kernel) ⟨Nat.le_of_ble_eq_true rfl, Nat.le_of_ble_eq_true rfl⟩) (x_recV C (by first | assumption | omega)) rfl rfl (Nat.le_of_ble_eq_true rfl) dX11_perform_4 ⟨Nat.le_of_ble_eq_true rfl, Nat.le_of_ble_eq_true rfl⟩ ?_
  refine a_top (y := (nI 8)) (by decide +kernel) ?_
  refine a_iaSM C (i := 8) rfl (by decide) dX11_perform_7 ?_
  refine a_tableIn C dX11_perform_8 (by decide +kernel) (by decide +kernel) (off := 185) (by decide +kernel) (tgt := 193) (by decide) ?_
  refine a_aload_n C dX11_perform_193 0 rfl ?_
  refine a_getR C (k := 0) iX11 x_k0 rfl (j := 0) rfl (by decide) (by decide +kernel) dX11_perform_194 ?_
  refine a_getR C (k := 1) iX9 (x_sS0 x_isS_1) rfl (j := 1) rfl (by decide) (by decide +kernel) dX11_perform_197 ?_
  refine a_iload_n C dX11_perform_200 2 rfl ?_
  refine a_callV C (k := 10) (As := [.int a]) (rest := []) (c_X6_append l G d 1 q x_isS_1 hq h5 a) (cwV 1 C.1.2.2.2.2 gX11_perform_X6_append rfl rfl rfl (by decide +kernel) ⟨Nat.le_of_ble_eq_true rfl, Nat.le_of_ble_eq_true rfl⟩) (x_sS9 x_isS_1) (q := (RX6, TX6, 4)) rfl rfl rfl rfl (Nat.le_of_ble_eq_true rfl) dX11_perform_201 ⟨Nat.le_of_ble_eq_true rfl, Nat.le_of_ble_eq_true rfl⟩ ?_
  refine a_pop C dX11_perform_204 rfl ?_
  refine a_goto C dX11_perform_205 (tgt := 266) (by decide) ?_
  exact a_vret C hlocks hr dX11_perform_266 rfl

set_option maxHeartbeats 1000000 in
set_option maxRecDepth 100000 in
theorem c_F_perform_9y (l : Launch) (G : xG) (d : xd) (a b : Int32) (n : Nat) (hn : d 2 0 = nI n) (h8 : n ≤ 8) (hc : f_wc d 1 n a = true) : x_M G l yX11_perform wsX11_perform 6 0 0 [.ref (x_b G + 0), .ref (x_e G 0 9), .int a, .int b] d none (x_r d 5 (f_cap (d 5) a n)) := by
  have iX11 : ∀ w ∈ u_ws RX11 TX11 13, w ∈ wsX11_perform := by decide +kernel
  have iX9 : ∀ w ∈ u_ws RX9 TX9 3, w ∈ wsX11_perform := by decide +kernel
  refine x_start (cc := cX11_perform) (maxL := 4) (ret := none) (own := RX11) (by decide) rfl rfl (Nat.le_of_ble_eq_true rfl) (lst := [(0, .ref (x_b G + 0)), (1, .ref (x_e G 0 9)), (2, .int a), (3, .int b)]) rfl ?_
  intro p e s m args below meth c C hr hlocks
  refine a_getsSM C (by decide +kernel) dX11_perform_0 ?_
  refine a_aload_n C dX11_perform_3 1 rfl ?_
  refine a_callRU C (b := x_e G 0 9) (As := []) (rest := [.ref (x_e G 4 1)]) (c_E_ordinal l G d 9 (by decide)) (va_cwU 0 C.1.2.2.2.2 gX11_perform_Jx29ce0_ordinal_8abf5_u430X10 rfl rfl rfl rfl (by decide +kernel) ⟨Nat.le_of_ble_eq_true rfl, Nat.le_of_ble_eq_true rfl⟩) (x_recV C (by first | assumption | omega)) rfl rfl (Nat.le_of_ble_eq_true rfl) dX11_perform_4 ⟨Nat.le_of_ble_eq_true rfl, Nat.le_of_ble_eq_true rfl⟩ ?_
  refine a_top (y := (nI 9)) (by decide +kernel) ?_
  refine a_iaSM C (i := 9) rfl (by decide) dX11_perform_7 ?_
  refine a_tableIn C dX11_perform_8 (by decide +kernel) (by decide +kernel) (off := 200) (by decide +kernel) (tgt := 208) (by decide) ?_
  refine a_aload_n C dX11_perform_208 0 rfl ?_
  refine a_getR C (k := 0) iX11 x_k0 rfl (j := 0) rfl (by decide) (by decide +kernel) dX11_perform_209 ?_
  refine a_getR C (k := 1) iX9 (x_sS0 x_isS_1) rfl (j := 0) rfl (by decide) (by decide +kernel) dX11_perform_212 ?_
  refine a_iload_n C dX11_perform_215 2 rfl ?_
  refine a_callV C (k := 2) (As := [.int a]) (rest := []) (c_X5_voteOnCap_y l G d 1 n x_isS_1 hn h8 a hc) (cwV 1 C.1.2.2.2.2 gX11_perform_X5_voteOnCap rfl rfl rfl (by decide +kernel) ⟨Nat.le_of_ble_eq_true rfl, Nat.le_of_ble_eq_true rfl⟩) (x_sS1 x_isS_1) (q := (RX5, TX5, 8)) rfl rfl rfl rfl (Nat.le_of_ble_eq_true rfl) dX11_perform_216 ⟨Nat.le_of_ble_eq_true rfl, Nat.le_of_ble_eq_true rfl⟩ ?_
  refine a_pop C dX11_perform_219 rfl ?_
  refine a_goto C dX11_perform_220 (tgt := 266) (by decide) ?_
  exact a_vret C hlocks hr dX11_perform_266 rfl

set_option maxHeartbeats 1000000 in
set_option maxRecDepth 100000 in
theorem c_F_perform_9n (l : Launch) (G : xG) (d : xd) (a b : Int32) (n : Nat) (hn : d 2 0 = nI n) (h8 : n ≤ 8) (hc : ¬ f_wc d 1 n a = true) : x_M G l yX11_perform wsX11_perform 6 0 0 [.ref (x_b G + 0), .ref (x_e G 0 9), .int a, .int b] d none d := by
  have iX11 : ∀ w ∈ u_ws RX11 TX11 13, w ∈ wsX11_perform := by decide +kernel
  have iX9 : ∀ w ∈ u_ws RX9 TX9 3, w ∈ wsX11_perform := by decide +kernel
  refine x_start (cc := cX11_perform) (maxL := 4) (ret := none) (own := RX11) (by decide) rfl rfl (Nat.le_of_ble_eq_true rfl) (lst := [(0, .ref (x_b G + 0)), (1, .ref (x_e G 0 9)), (2, .int a), (3, .int b)]) rfl ?_
  intro p e s m args below meth c C hr hlocks
  refine a_getsSM C (by decide +kernel) dX11_perform_0 ?_
  refine a_aload_n C dX11_perform_3 1 rfl ?_
  refine a_callRU C (b := x_e G 0 9) (As := []) (rest := [.ref (x_e G 4 1)]) (c_E_ordinal l G d 9 (by decide)) (va_cwU 0 C.1.2.2.2.2 gX11_perform_Jx29ce0_ordinal_8abf5_u430X10 rfl rfl rfl rfl (by decide +kernel) ⟨Nat.le_of_ble_eq_true rfl, Nat.le_of_ble_eq_true rfl⟩) (x_recV C (by first | assumption | omega)) rfl rfl (Nat.le_of_ble_eq_true rfl) dX11_perform_4 ⟨Nat.le_of_ble_eq_true rfl, Nat.le_of_ble_eq_true rfl⟩ ?_
  refine a_top (y := (nI 9)) (by decide +kernel) ?_
  refine a_iaSM C (i := 9) rfl (by decide) dX11_perform_7 ?_
  refine a_tableIn C dX11_perform_8 (by decide +kernel) (by decide +kernel) (off := 200) (by decide +kernel) (tgt := 208) (by decide) ?_
  refine a_aload_n C dX11_perform_208 0 rfl ?_
  refine a_getR C (k := 0) iX11 x_k0 rfl (j := 0) rfl (by decide) (by decide +kernel) dX11_perform_209 ?_
  refine a_getR C (k := 1) iX9 (x_sS0 x_isS_1) rfl (j := 0) rfl (by decide) (by decide +kernel) dX11_perform_212 ?_
  refine a_iload_n C dX11_perform_215 2 rfl ?_
  refine a_callV C (k := 2) (As := [.int a]) (rest := []) (c_X5_voteOnCap_n l G d 1 n x_isS_1 hn h8 a hc) (cwV 1 C.1.2.2.2.2 gX11_perform_X5_voteOnCap rfl rfl rfl (by decide +kernel) ⟨Nat.le_of_ble_eq_true rfl, Nat.le_of_ble_eq_true rfl⟩) (x_sS1 x_isS_1) (q := (RX5, TX5, 8)) rfl rfl rfl rfl (Nat.le_of_ble_eq_true rfl) dX11_perform_216 ⟨Nat.le_of_ble_eq_true rfl, Nat.le_of_ble_eq_true rfl⟩ ?_
  refine a_pop C dX11_perform_219 rfl ?_
  refine a_goto C dX11_perform_220 (tgt := 266) (by decide) ?_
  exact a_vret C hlocks hr dX11_perform_266 rfl

set_option maxHeartbeats 1000000 in
set_option maxRecDepth 100000 in
theorem c_F_perform_10 (l : Launch) (G : xG) (d : xd) (a b : Int32) (n : Nat) (hn : d 2 0 = nI n) (h8 : n ≤ 8) (q : Nat) (hq : d 10 0 = nI q) (h6 : q ≤ 6) : x_M G l yX11_perform wsX11_perform 6 0 0 [.ref (x_b G + 0), .ref (x_e G 0 10), .int a, .int b] d none (f_night d 1 n q) := by
  have iX11 : ∀ w ∈ u_ws RX11 TX11 13, w ∈ wsX11_perform := by decide +kernel
  refine x_start (cc := cX11_perform) (maxL := 4) (ret := none) (own := RX11) (by decide) rfl rfl (Nat.le_of_ble_eq_true rfl) (lst := [(0, .ref (x_b G + 0)), (1, .ref (x_e G 0 10)), (2, .int a), (3, .int b)]) rfl ?_
  intro p e s m args below meth c C hr hlocks
  refine a_getsSM C (by decide +kernel) dX11_perform_0 ?_
  refine a_aload_n C dX11_perform_3 1 rfl ?_
  refine a_callRU C (b := x_e G 0 10) (As := []) (rest := [.ref (x_e G 4 1)]) (c_E_ordinal l G d 10 (by decide)) (va_cwU 0 C.1.2.2.2.2 gX11_perform_Jx29ce0_ordinal_8abf5_u430X10 rfl rfl rfl rfl (by decide +kernel) ⟨Nat.le_of_ble_eq_true rfl, Nat.le_of_ble_eq_true rfl⟩) (x_recV C (by first | assumption | omega)) rfl rfl (Nat.le_of_ble_eq_true rfl) dX11_perform_4 ⟨Nat.le_of_ble_eq_true rfl, Nat.le_of_ble_eq_true rfl⟩ ?_
  refine a_top (y := (nI 10)) (by decide +kernel) ?_
  refine a_iaSM C (i := 10) rfl (by decide) dX11_perform_7 ?_
  refine a_tableIn C dX11_perform_8 (by decide +kernel) (by decide +kernel) (off := 215) (by decide +kernel) (tgt := 223) (by decide) ?_
  refine a_aload_n C dX11_perform_223 0 rfl ?_
  refine a_getR C (k := 0) iX11 x_k0 rfl (j := 5) rfl (by decide) (by decide +kernel) dX11_perform_224 ?_
  refine a_aload_n C dX11_perform_227 0 rfl ?_
  refine a_getR C (k := 0) iX11 x_k0 rfl (j := 0) rfl (by decide) (by decide +kernel) dX11_perform_228 ?_
  refine a_callV C (k := 157) (As := [.ref (x_b G + 1)]) (rest := []) (c_X7_pass l G d 1 n x_isS_1 hn h8 q hq h6) (cwV 1 C.1.2.2.2.2 gX11_perform_X7_pass rfl rfl rfl (by decide +kernel) ⟨Nat.le_of_ble_eq_true rfl, Nat.le_of_ble_eq_true rfl⟩) x_k157 (q := (RX7, TX7, 1)) rfl rfl rfl rfl (Nat.le_of_ble_eq_true rfl) dX11_perform_231 ⟨Nat.le_of_ble_eq_true rfl, Nat.le_of_ble_eq_true rfl⟩ ?_
  refine a_pop C dX11_perform_234 rfl ?_
  refine a_goto C dX11_perform_235 (tgt := 266) (by decide) ?_
  exact a_vret C hlocks hr dX11_perform_266 rfl

set_option maxHeartbeats 1000000 in
set_option maxRecDepth 100000 in
theorem c_F_perform_11 (l : Launch) (G : xG) (d : xd) (a b : Int32) (n : Nat) (hn : d 2 0 = nI n) (h8 : n ≤ 8) (a0 : Nat) (sh : Nat → Nat) (hs : ∀ j, j < n → d 4 j = nI (sh j)) (hs9 : ∀ j, j < n → sh j ≤ 9) (hS : 1 ≤ f_sn sh n) (ha0 : a0 < 100000) (ht : d 14 2 = nI a0) : x_M G l yX11_perform wsX11_perform 6 0 0 [.ref (x_b G + 0), .ref (x_e G 0 11), .int a, .int b] d none (f_shr d 159 1 n a0 sh) := by
  have iX11 : ∀ w ∈ u_ws RX11 TX11 13, w ∈ wsX11_perform := by decide +kernel
  refine x_start (cc := cX11_perform) (maxL := 4) (ret := none) (own := RX11) (by decide) rfl rfl (Nat.le_of_ble_eq_true rfl) (lst := [(0, .ref (x_b G + 0)), (1, .ref (x_e G 0 11)), (2, .int a), (3, .int b)]) rfl ?_
  intro p e s m args below meth c C hr hlocks
  refine a_getsSM C (by decide +kernel) dX11_perform_0 ?_
  refine a_aload_n C dX11_perform_3 1 rfl ?_
  refine a_callRU C (b := x_e G 0 11) (As := []) (rest := [.ref (x_e G 4 1)]) (c_E_ordinal l G d 11 (by decide)) (va_cwU 0 C.1.2.2.2.2 gX11_perform_Jx29ce0_ordinal_8abf5_u430X10 rfl rfl rfl rfl (by decide +kernel) ⟨Nat.le_of_ble_eq_true rfl, Nat.le_of_ble_eq_true rfl⟩) (x_recV C (by first | assumption | omega)) rfl rfl (Nat.le_of_ble_eq_true rfl) dX11_perform_4 ⟨Nat.le_of_ble_eq_true rfl, Nat.le_of_ble_eq_true rfl⟩ ?_
  refine a_top (y := (nI 11)) (by decide +kernel) ?_
  refine a_iaSM C (i := 11) rfl (by decide) dX11_perform_7 ?_
  refine a_tableIn C dX11_perform_8 (by decide +kernel) (by decide +kernel) (off := 230) (by decide +kernel) (tgt := 238) (by decide) ?_
  refine a_aload_n C dX11_perform_238 0 rfl ?_
  refine a_getR C (k := 0) iX11 x_k0 rfl (j := 0) rfl (by decide) (by decide +kernel) dX11_perform_239 ?_
  refine a_aload_n C dX11_perform_242 0 rfl ?_
  refine a_getR C (k := 0) iX11 x_k0 rfl (j := 6) rfl (by decide) (by decide +kernel) dX11_perform_243 ?_
  refine a_callV C (k := 1) (As := [.ref (x_b G + 159)]) (rest := []) (c_X9_shareTreasury l G d 159 1 n a0 sh x_isA_0 x_isS_1 hn h8 hs hs9 hS ha0 ht) (cwV 1 C.1.2.2.2.2 gX11_perform_X9_shareTreasury rfl rfl rfl (by decide +kernel) ⟨Nat.le_of_ble_eq_true rfl, Nat.le_of_ble_eq_true rfl⟩) (x_sS0 x_isS_1) (q := (RX9, TX9, 3)) rfl rfl rfl rfl (Nat.le_of_ble_eq_true rfl) dX11_perform_246 ⟨Nat.le_of_ble_eq_true rfl, Nat.le_of_ble_eq_true rfl⟩ ?_
  refine a_pop C dX11_perform_249 rfl ?_
  refine a_goto C dX11_perform_250 (tgt := 266) (by decide) ?_
  exact a_vret C hlocks hr dX11_perform_266 rfl

set_option maxHeartbeats 1000000 in
set_option maxRecDepth 100000 in
theorem c_F_perform_12 (l : Launch) (G : xG) (d : xd) (b : Int32) (i n : Nat) (hn : d 2 0 = nI n) (h8 : n ≤ 8) (hi : i < n)  : x_M G l yX11_perform wsX11_perform 6 0 0 [.ref (x_b G + 0), .ref (x_e G 0 12), .int (nI i), .int b] d none (f_sell d 1 i b) := by
  have iX11 : ∀ w ∈ u_ws RX11 TX11 13, w ∈ wsX11_perform := by decide +kernel
  refine x_start (cc := cX11_perform) (maxL := 4) (ret := none) (own := RX11) (by decide) rfl rfl (Nat.le_of_ble_eq_true rfl) (lst := [(0, .ref (x_b G + 0)), (1, .ref (x_e G 0 12)), (2, .int (nI i)), (3, .int b)]) rfl ?_
  intro p e s m args below meth c C hr hlocks
  refine a_getsSM C (by decide +kernel) dX11_perform_0 ?_
  refine a_aload_n C dX11_perform_3 1 rfl ?_
  refine a_callRU C (b := x_e G 0 12) (As := []) (rest := [.ref (x_e G 4 1)]) (c_E_ordinal l G d 12 (by decide)) (va_cwU 0 C.1.2.2.2.2 gX11_perform_Jx29ce0_ordinal_8abf5_u430X10 rfl rfl rfl rfl (by decide +kernel) ⟨Nat.le_of_ble_eq_true rfl, Nat.le_of_ble_eq_true rfl⟩) (x_recV C (by first | assumption | omega)) rfl rfl (Nat.le_of_ble_eq_true rfl) dX11_perform_4 ⟨Nat.le_of_ble_eq_true rfl, Nat.le_of_ble_eq_true rfl⟩ ?_
  refine a_top (y := (nI 12)) (by decide +kernel) ?_
  refine a_iaSM C (i := 12) rfl (by decide) dX11_perform_7 ?_
  refine a_tableIn C dX11_perform_8 (by decide +kernel) (by decide +kernel) (off := 245) (by decide +kernel) (tgt := 253) (by decide) ?_
  refine a_aload_n C dX11_perform_253 0 rfl ?_
  refine a_getR C (k := 0) iX11 x_k0 rfl (j := 0) rfl (by decide) (by decide +kernel) dX11_perform_254 ?_
  refine a_iload_n C dX11_perform_257 2 rfl ?_
  refine a_iload_n C dX11_perform_258 3 rfl ?_
  refine a_callV C (k := 1) (As := [.int (nI i), .int b]) (rest := []) (c_X9_sellOil l G d 1 i x_isS_1 (by omega) b) (cwV 2 C.1.2.2.2.2 gX11_perform_X9_sellOil rfl rfl rfl (by decide +kernel) ⟨Nat.le_of_ble_eq_true rfl, Nat.le_of_ble_eq_true rfl⟩) (x_sS0 x_isS_1) (q := (RX9, TX9, 3)) rfl rfl rfl rfl (Nat.le_of_ble_eq_true rfl) dX11_perform_259 ⟨Nat.le_of_ble_eq_true rfl, Nat.le_of_ble_eq_true rfl⟩ ?_
  refine a_pop C dX11_perform_262 rfl ?_
  refine a_goto C dX11_perform_263 (tgt := 266) (by decide) ?_
  exact a_vret C hlocks hr dX11_perform_266 rfl


