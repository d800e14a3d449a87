section XROWS2
variable {G : xG} {p : Program} {l : Launch} {e : Env} {R : Room} {s : State} {m : MethodId} {args : Array Value} {below : List Frame} {meth : Method} {c : Code} {nL cells slots : Nat} {Q : State → Prop} {cc : ByteArray} {Ts : List Cond} {own : String} {pc : Nat} {lst lst2 : List (Nat × Value)} {rest : List Value} {d : xd}
theorem x_Eat (C : Cx G p s m args c cc Ts own nL) : x_E G s s.heap := C.2.2.2
theorem x_rcV (C : Cx G p s m args c cc Ts own nL) {v : Nat} (hv : v < 13) (H : Heap) (locs : List Loc) (hS : va_S (x_A G) s.heap H locs) : ∃ cell : Cell, H[x_e G 0 v]? = some cell ∧ cell.vm.isStatics = false ∧ s.vm.findClass "LampCooperative$Verb" = some cell.cls := by
  obtain ⟨cell, h1, h2, h3, -⟩ := ((x_Eat C).2.1.1 v hv).1.kept hS.2.1
  exact ⟨cell, h1, h2, h3⟩
def x_vd (v : Nat) : Int32 := ([2, 1, 0, 0, 2, 2, 1, 1, 1, 1, 0, 0, 1] : List Int32).getD v 0
def x_vh (v : Nat) : Int32 := ([0, 0, 1, 1, 0, 0, 0, 0, 0, 0, 0, 0, 1] : List Int32).getD v 0
def x_vo (v : Nat) : Int32 := ([0, 1, 2, 3, 4, 5, 6, 7, 8, 9, 10, 11, 12] : List Int32).getD v 0
theorem a_getVd (C : Cx G p s m args c cc Ts own nL) {index v : Nat} (hv : v < 13) (hlk : Cond.fieldLink own index "LampCooperative$Verb" "digits" "I" ∈ Ts) (hdg : decode cc pc = .ok (.getfield index, 3)) (kk : Ab G p l e R s m args below meth c nL cells slots Q (pc + 3) lst (.int (x_vd v) :: rest) d) : Ab G p l e R s m args below meth c nL cells slots Q pc lst (.ref (x_e G 0 v) :: rest) d :=
  fun H locs ls hP hS hl => vk_getf C.1.1 C.1.2.1 (((x_Eat C).2.1.1 v hv).2 ("LampCooperative$Verb", "digits", "I", [2, 1, 0, 0, 2, 2, 1, 1, 1, 1, 0, 0, 1]) (by simp [x_vF])) hS C.1.2.2.2.1 (C.1.2.2.2.2 _ hlk) (fun _ h9 => h9) hdg (kk H locs ls hP hS hl)
theorem a_getVh (C : Cx G p s m args c cc Ts own nL) {index v : Nat} (hv : v < 13) (hlk : Cond.fieldLink own index "LampCooperative$Verb" "hasNumber" "Z" ∈ Ts) (hdg : decode cc pc = .ok (.getfield index, 3)) (kk : Ab G p l e R s m args below meth c nL cells slots Q (pc + 3) lst (.int (x_vh v) :: rest) d) : Ab G p l e R s m args below meth c nL cells slots Q pc lst (.ref (x_e G 0 v) :: rest) d :=
  fun H locs ls hP hS hl => vk_getf C.1.1 C.1.2.1 (((x_Eat C).2.1.1 v hv).2 ("LampCooperative$Verb", "hasNumber", "Z", [0, 0, 1, 1, 0, 0, 0, 0, 0, 0, 0, 0, 1]) (by simp [x_vF])) hS C.1.2.2.2.1 (C.1.2.2.2.2 _ hlk) (fun _ h9 => h9) hdg (kk H locs ls hP hS hl)
theorem a_getVo (C : Cx G p s m args c cc Ts own nL) {index v : Nat} (hv : v < 13) (hlk : Cond.fieldLink own index "java/lang/Enum" "ordinal" "I" ∈ Ts) (hdg : decode cc pc = .ok (.getfield index, 3)) (kk : Ab G p l e R s m args below meth c nL cells slots Q (pc + 3) lst (.int (x_vo v) :: rest) d) : Ab G p l e R s m args below meth c nL cells slots Q pc lst (.ref (x_e G 0 v) :: rest) d :=
  fun H locs ls hP hS hl => vk_getf C.1.1 C.1.2.1 (((x_Eat C).2.1.1 v hv).2 ("java/lang/Enum", "ordinal", "I", [0, 1, 2, 3, 4, 5, 6, 7, 8, 9, 10, 11, 12]) (by simp [x_vF])) hS C.1.2.2.2.1 (C.1.2.2.2.2 _ hlk) (fun _ h9 => h9) hdg (kk H locs ls hP hS hl)
theorem a_getVw (C : Cx G p s m args c cc Ts own nL) {index v : Nat} (hv : v < 13) (hlk : Cond.fieldLink own index "LampCooperative$Verb" "word" "Ljava/lang/String;" ∈ Ts) (hdg : decode cc pc = .ok (.getfield index, 3)) (kk : Ab G p l e R s m args below meth c nL cells slots Q (pc + 3) lst (.ref (x_e G 2 v) :: rest) d) : Ab G p l e R s m args below meth c nL cells slots Q pc lst (.ref (x_e G 0 v) :: rest) d :=
  fun H locs ls hP hS hl => vk_getf C.1.1 C.1.2.1 ((x_Eat C).2.2.1 v hv) hS C.1.2.2.2.1 (C.1.2.2.2.2 _ hlk) (fun _ h9 => h9) hdg (kk H locs ls hP hS hl)
theorem a_getSv (C : Cx G p s m args c cc Ts own nL) {index v : Nat} (hv : v < 27) (hlk : Cond.fieldLink own index "java/lang/String" "value" "[B" ∈ Ts) (hdg : decode cc pc = .ok (.getfield index, 3)) (kk : Ab G p l e R s m args below meth c nL cells slots Q (pc + 3) lst (.ref (x_e G 3 v) :: rest) d) : Ab G p l e R s m args below meth c nL cells slots Q pc lst (.ref (x_e G 2 v) :: rest) d :=
  fun H locs ls hP hS hl => vk_getf C.1.1 C.1.2.1 ((x_Eat C).2.2.2.1.1 v hv).2.2.1 hS C.1.2.2.2.1 (C.1.2.2.2.2 _ hlk) (fun _ h9 => h9) hdg (kk H locs ls hP hS hl)
theorem a_getSc (C : Cx G p s m args c cc Ts own nL) {index v : Nat} (hv : v < 27) (hlk : Cond.fieldLink own index "java/lang/String" "coder" "B" ∈ Ts) (hdg : decode cc pc = .ok (.getfield index, 3)) (kk : Ab G p l e R s m args below meth c nL cells slots Q (pc + 3) lst (.int 0 :: rest) d) : Ab G p l e R s m args below meth c nL cells slots Q pc lst (.ref (x_e G 2 v) :: rest) d :=
  fun H locs ls hP hS hl => vk_getf C.1.1 C.1.2.1 ((x_Eat C).2.2.2.1.1 v hv).2.1 hS C.1.2.2.2.1 (C.1.2.2.2.2 _ hlk) (fun _ h9 => h9) hdg (kk H locs ls hP hS hl)
def x_wL (v : Nat) : Nat := x_wl.getD v 0
def x_wB (v j : Nat) : Int32 := (x_wb.getD v []).getD j 0
theorem a_alenS (C : Cx G p s m args c cc Ts own nL) {v : Nat} (hv : v < 27) (hdg : decode cc pc = .ok (.arraylength, 1)) (kk : Ab G p l e R s m args below meth c nL cells slots Q (pc + 1) lst (.int (nI (x_wL v)) :: rest) d) : Ab G p l e R s m args below meth c nL cells slots Q pc lst (.ref (x_e G 3 v) :: rest) d :=
  fun H locs ls hP hS hl => va_tlen C.1.1 C.1.2.1 ((x_Eat C).2.2.2.1.1 v hv).2.2.2 hS rfl hdg (kk H locs ls hP hS hl)
theorem a_baS (C : Cx G p s m args c cc Ts own nL) {v i : Nat} {x : Int32} (hv : v < 27) (hx : x = nI i) (hi : i < x_wL v) (h9 : x_wL v < 1000) (hdg : decode cc pc = .ok (.baload, 1)) (kk : Ab G p l e R s m args below meth c nL cells slots Q (pc + 1) lst (.int (x_wB v i) :: rest) d) : Ab G p l e R s m args below meth c nL cells slots Q pc lst (.int x :: .ref (x_e G 3 v) :: rest) d := by
  subst hx
  exact fun H locs ls hP hS hl => va_tb C.1.1 C.1.2.1 ((x_Eat C).2.2.2.1.1 v hv).2.2.2 hS (x_vp (n := x_wL v) hi (by omega)) (by rw [x_cl hi (by omega)]; rfl) hdg (kk H locs ls hP hS hl)
theorem a_getsVB (C : Cx G p s m args c cc Ts own nL) {index : Nat} (hlk : Cond.fieldLink own index "LampCooperative$CommandText" "VERBS" "[LLampCooperative$Verb;" ∈ Ts) (hdg : decode cc pc = .ok (.getstatic index, 3)) (kk : Ab G p l e R s m args below meth c nL cells slots Q (pc + 3) lst (.ref (x_e G 4 0) :: rest) d) : Ab G p l e R s m args below meth c nL cells slots Q pc lst rest d :=
  fun H locs ls hP hS hl => va_gets C.1.1 C.1.2.1 (x_Eat C).2.2.2.2.1 hS C.1.2.2.2.1 (C.1.2.2.2.2 _ hlk) (fun _ h9 => h9) hdg (kk H locs ls hP hS hl)
theorem a_alenVB (C : Cx G p s m args c cc Ts own nL) (hdg : decode cc pc = .ok (.arraylength, 1)) (kk : Ab G p l e R s m args below meth c nL cells slots Q (pc + 1) lst (.int 13 :: rest) d) : Ab G p l e R s m args below meth c nL cells slots Q pc lst (.ref (x_e G 4 0) :: rest) d :=
  fun H locs ls hP hS hl => va_tlen C.1.1 C.1.2.1 (x_Eat C).2.2.2.2.2.1 hS rfl hdg (kk H locs ls hP hS hl)
theorem a_aaldVB (C : Cx G p s m args c cc Ts own nL) {i : Nat} {x : Int32} (hx : x = nI i) (hi : i < 13) (hdg : decode cc pc = .ok (.aaload, 1)) (kk : Ab G p l e R s m args below meth c nL cells slots Q (pc + 1) lst (.ref (x_e G 0 i) :: rest) d) : Ab G p l e R s m args below meth c nL cells slots Q pc lst (.int x :: .ref (x_e G 4 0) :: rest) d := by
  subst hx
  exact fun H locs ls hP hS hl => vb_tq C.1.1 C.1.2.1 (x_Eat C).2.2.2.2.2.1 hS (x_vp hi (by omega)) (by rw [x_cl hi (by omega)]) hdg (kk H locs ls hP hS hl)
theorem a_getsSM (C : Cx G p s m args c cc Ts own nL) {index : Nat} (hlk : Cond.fieldLink own index "LampCooperative$1" "$SwitchMap$LampCooperative$Verb" "[I" ∈ Ts) (hdg : decode cc pc = .ok (.getstatic index, 3)) (kk : Ab G p l e R s m args below meth c nL cells slots Q (pc + 3) lst (.ref (x_e G 4 1) :: rest) d) : Ab G p l e R s m args below meth c nL cells slots Q pc lst rest d :=
  fun H locs ls hP hS hl => va_gets C.1.1 C.1.2.1 (x_Eat C).2.2.2.2.2.2.1 hS C.1.2.2.2.1 (C.1.2.2.2.2 _ hlk) (fun _ h9 => h9) hdg (kk H locs ls hP hS hl)
theorem a_iaSM (C : Cx G p s m args c cc Ts own nL) {i : Nat} {x : Int32} (hx : x = nI i) (hi : i < 13) (hdg : decode cc pc = .ok (.iaload, 1)) (kk : Ab G p l e R s m args below meth c nL cells slots Q (pc + 1) lst (.int (nI (x_sm i)) :: rest) d) : Ab G p l e R s m args below meth c nL cells slots Q pc lst (.int x :: .ref (x_e G 4 1) :: rest) d := by
  subst hx
  exact fun H locs ls hP hS hl => va_ti C.1.1 C.1.2.1 (x_Eat C).2.2.2.2.2.2.2.1 hS (x_vp hi (by omega)) (by rw [x_cl hi (by omega)]; rfl) hdg (kk H locs ls hP hS hl)
theorem a_getsCS (C : Cx G p s m args c cc Ts own nL) {index : Nat} (hlk : Cond.fieldLink own index "java/lang/String" "COMPACT_STRINGS" "Z" ∈ Ts) (hdg : decode cc pc = .ok (.getstatic index, 3)) (kk : Ab G p l e R s m args below meth c nL cells slots Q (pc + 3) lst (.int 1 :: rest) d) : Ab G p l e R s m args below meth c nL cells slots Q pc lst rest d :=
  fun H locs ls hP hS hl => va_gets C.1.1 C.1.2.1 (x_Eat C).2.2.2.2.2.2.2.2.2.2.1 hS C.1.2.2.2.1 (C.1.2.2.2.2 _ hlk) (fun _ h9 => h9) hdg (kk H locs ls hP hS hl)
def x_rn (v : Value) : Prop := v = .null ∨ ∃ t, v = .ref t
theorem a_getsQ (C : Cx G p s m args c cc Ts own nL) {index : Nat} (hlk : Cond.fieldLink own index "jdk/internal/util/Preconditions" "SIOOBE_FORMATTER" "Ljava/util/function/BiFunction;" ∈ Ts) (hdg : decode cc pc = .ok (.getstatic index, 3)) (kk : ∀ fv : Value, x_rn fv → Ab G p l e R s m args below meth c nL cells slots Q (pc + 3) lst (fv :: rest) d) : Ab G p l e R s m args below meth c nL cells slots Q pc lst rest d := by
  intro H locs ls hP hS hl
  have hq : va_Zq "jdk/internal/util/Preconditions" "SIOOBE_FORMATTER" "Ljava/util/function/BiFunction;" (x_A G) s s.heap := (x_Eat C).2.2.2.2.2.2.2.2.2.2.2.2.2.2.2.2.2.2.2.2
  rcases hq with h | ⟨t, h⟩
  · exact va_gets C.1.1 C.1.2.1 h hS C.1.2.2.2.1 (C.1.2.2.2.2 _ hlk) (fun _ h9 => h9) hdg (kk .null (Or.inl rfl) H locs ls hP hS hl)
  · exact va_gets C.1.1 C.1.2.1 h hS C.1.2.2.2.1 (C.1.2.2.2.2 _ hlk) (fun _ h9 => h9) hdg (kk (.ref t) (Or.inr ⟨t, rfl⟩) H locs ls hP hS hl)
theorem a_ifnonnull (C : Cx G p s m args c cc Ts own nL) {x : Nat} {off : Int} {tgt : Nat} (hdg : decode cc pc = .ok (.ifnonnull off, 3)) (ht : (pc : Int) + off = (tgt : Int)) (kk : Ab G p l e R s m args below meth c nL cells slots Q tgt lst rest d) : Ab G p l e R s m args below meth c nL cells slots Q pc lst (.ref x :: rest) d := fun H locs ls hP hS hl => lv_ifnonnull C.1.1 C.1.2.1 hdg ht (kk H locs ls hP hS hl)
theorem a_ifnonnullN (C : Cx G p s m args c cc Ts own nL) {off : Int} (hdg : decode cc pc = .ok (.ifnonnull off, 3)) (kk : Ab G p l e R s m args below meth c nL cells slots Q (pc + 3) lst rest d) : Ab G p l e R s m args below meth c nL cells slots Q pc lst (.null :: rest) d := fun H locs ls hP hS hl => lv_ifnonnullN C.1.1 C.1.2.1 hdg (kk H locs ls hP hS hl)
theorem a_ifnull (C : Cx G p s m args c cc Ts own nL) {x : Nat} {off : Int} (hdg : decode cc pc = .ok (.ifnull off, 3)) (kk : Ab G p l e R s m args below meth c nL cells slots Q (pc + 3) lst rest d) : Ab G p l e R s m args below meth c nL cells slots Q pc lst (.ref x :: rest) d := fun H locs ls hP hS hl => lv_ifnull C.1.1 C.1.2.1 hdg (kk H locs ls hP hS hl)
theorem a_ifnullN (C : Cx G p s m args c cc Ts own nL) {off : Int} {tgt : Nat} (hdg : decode cc pc = .ok (.ifnull off, 3)) (ht : (pc : Int) + off = (tgt : Int)) (kk : Ab G p l e R s m args below meth c nL cells slots Q tgt lst rest d) : Ab G p l e R s m args below meth c nL cells slots Q pc lst (.null :: rest) d := fun H locs ls hP hS hl => lv_ifnullN C.1.1 C.1.2.1 hdg ht (kk H locs ls hP hS hl)
theorem a_dupx1 (C : Cx G p s m args c cc Ts own nL) {va vb : Value} (hdg : decode cc pc = .ok (.dup_x1, 1)) (hva : va.category = 1) (hvb : vb.category = 1) (kk : Ab G p l e R s m args below meth c nL cells slots Q (pc + 1) lst (va :: vb :: va :: rest) d) : Ab G p l e R s m args below meth c nL cells slots Q pc lst (va :: vb :: rest) d := fun H locs ls hP hS hl => lv_dup_x1 C.1.1 C.1.2.1 hdg hva hvb (kk H locs ls hP hS hl)
theorem a_i2b (C : Cx G p s m args c cc Ts own nL) {x v : Int32} (hdg : decode cc pc = .ok (.i2b, 1)) (hv : x.toInt8.toInt32 = v) (kk : Ab G p l e R s m args below meth c nL cells slots Q (pc + 1) lst (.int v :: rest) d) : Ab G p l e R s m args below meth c nL cells slots Q pc lst (.int x :: rest) d := fun H locs ls hP hS hl => lv_i2b C.1.1 C.1.2.1 hdg hv (kk H locs ls hP hS hl)
theorem a_popR (C : Cx G p s m args c cc Ts own nL) {fv : Value} (hr : x_rn fv) (hdg : decode cc pc = .ok (.pop, 1)) (kk : Ab G p l e R s m args below meth c nL cells slots Q (pc + 1) lst rest d) : Ab G p l e R s m args below meth c nL cells slots Q pc lst (fv :: rest) d := a_pop C hdg (by rcases hr with rfl | ⟨t, rfl⟩ <;> rfl) kk
theorem x_vr_s (G : xG) {v : Nat} (hv : v < 13) : x_vr G (nI (v + 1)) = some (x_e G 0 v) := by
  unfold x_vr
  rw [if_neg (fun h => by have := (nI_eq (b := 0) (by omega) (by omega)).mp h; omega), nI_clamp (by omega)]
  rfl
theorem x_assign (C9 : String) : ∀ comp c0 : ClassId, s.vm.findClass C9 = some comp → s.vm.findClass C9 = some c0 → s.vm.assignable c0 comp = true := by
  intro comp c0 h1 h2
  cases Option.some.inj (h1.symm.trans h2)
  show Vm.assignableAux s.vm (255 + 1) comp comp = true
  rw [Vm.assignableAux, beq_self_eq_true, Bool.true_or]
theorem a_aastV (C : Cx G p s m args c cc Ts own nL) {k n i v : Nat} {x : Int32} (hk : x_sh[k]? = some (.inr (5, n))) (hx : x = nI i) (hin : i < n) (hn : n < 2147483648) (hv : v < 13) (hdg : decode cc pc = .ok (.aastore, 1)) (kk : Ab G p l e R s m args below meth c nL cells slots Q (pc + 1) lst rest (x_p d k i (nI (v + 1)))) : Ab G p l e R s m args below meth c nL cells slots Q pc lst (.ref (x_e G 0 v) :: .int x :: .ref (x_b G + k) :: rest) d := by
  subst hx
  intro H locs ls hP hS hl
  refine vb_astq (D := x_D G) (E := "LampCooperative$Verb") (C := "LampCooperative$Verb") (f := fun j => x_vr G (d k j)) C.1.1 C.1.2.1 C.2.1 hP (x_Dok C.2.2.1.2 d) hS k 5 (x_get G d hk) rfl (x_rcV C hv H locs hS) (x_assign _) (x_vp hin hn) hdg (fun H1 locs1 hP1 _ hS1 => kk H1 locs1 ls ?_ hS1 hl)
  have e := x_set G d (k := k) (sh := .inr (5, n)) (upd (d k) i (nI (v + 1))) hk
  rw [show x_p d k i (nI (v + 1)) = x_r d k (upd (d k) i (nI (v + 1))) from rfl, ← e]
  rw [x_cl hin hn] at hP1
  have e2 : va_up (fun j => x_vr G (d k j)) i (some (x_e G 0 v)) = fun j => x_vr G (upd (d k) i (nI (v + 1)) j) := by
    funext j
    by_cases q : j = i
    · subst q
      simp [va_up, upd, x_vr_s G hv]
    · simp [va_up, upd, q]
  rw [e2] at hP1
  exact hP1
theorem a_aaldV_ref (C : Cx G p s m args c cc Ts own nL) {k n i v : Nat} {x : Int32} (hk : x_sh[k]? = some (.inr (5, n))) (hx : x = nI i) (hin : i < n) (hn : n < 2147483648) (hv : v < 13) (hd : d k i = nI (v + 1)) (hdg : decode cc pc = .ok (.aaload, 1)) (kk : Ab G p l e R s m args below meth c nL cells slots Q (pc + 1) lst (.ref (x_e G 0 v) :: rest) d) : Ab G p l e R s m args below meth c nL cells slots Q pc lst (.int x :: .ref (x_b G + k) :: rest) d := by
  subst hx
  refine a_aaldV C hk (x_vp hin hn) hdg ?_
  rw [x_cl hin hn, hd, x_vr_s G hv]
  exact kk
/-- calls -/
theorem a_callR (C : Cx G p s m args c cc Ts own nL) {y : MethodName} {Cn : String} {bytes : ByteArray} {maxL mc ms n index lv b : Nat} {ret : Option FieldType} {ws : List Cond} {As : List Value} {r : Option Value} {d2 : xd}
    (hM : x_M G l y ws lv mc ms (.ref b :: As) d r d2) (cw : CallW R s args own Cn index y bytes maxL ret ws (x_rm lv mc ms) mc ms n) (hrec : ∀ (H : Heap) (locs : List Loc), va_S (x_A G) s.heap H locs → ∃ cell : Cell, H[b]? = some cell ∧ cell.vm.isStatics = false ∧ s.vm.findClass Cn = some cell.cls) (hn : As.length = n) {st : List Value} (hst : st = As.reverse ++ .ref b :: rest) (hro : (rest.map fun v => v.category).sum ≤ 8) (hdg : decode cc pc = .ok (.invokevirtual index, 3)) (hf : cells + mc ≤ R.cells ∧ slots + ms ≤ R.slots)
    (kk : Ab G p l e R s m args below meth c nL (cells + mc) (slots + ms) Q (pc + 3) lst (r.toList ++ rest) d2) : Ab G p l e R s m args below meth c nL cells slots Q pc lst st d := by
  intro H locs ls hP hS hl
  subst hst
  exact x_go (free := x_A G) (va_runV (As := As) (rest := rest) C.1 hM cw ⟨x_blind G _ d, hrec H locs hS, x_pre C.2 hP hS⟩ rfl hn hl.1 rfl (lv_room hro) hdg hf) hS hl kk
theorem x_recV (C : Cx G p s m args c cc Ts own nL) {v : Nat} (hv : v < 13) : ∀ (H : Heap) (locs : List Loc), va_S (x_A G) s.heap H locs → ∃ cell : Cell, H[x_e G 0 v]? = some cell ∧ cell.vm.isStatics = false ∧ s.vm.findClass "LampCooperative$Verb" = some cell.cls := fun H locs hS => x_rcV C hv H locs hS
theorem x_recS (C : Cx G p s m args c cc Ts own nL) {v : Nat} (hv : v < 27) : ∀ (H : Heap) (locs : List Loc), va_S (x_A G) s.heap H locs → ∃ cell : Cell, H[x_e G 2 v]? = some cell ∧ cell.vm.isStatics = false ∧ s.vm.findClass "java/lang/String" = some cell.cls := fun _ _ hS => vk_recv (x_Eat C).2.2.2.1 hv hS
theorem a_callU (C : Cx G p s m args c cc Ts own nL) {x y : MethodName} {Cn owner : String} {bytes : ByteArray} {maxL mc ms n index lv k ci : Nat} {ret : Option FieldType} {ws : List Cond} {As : List Value} {r : Option Value} {d2 : xd} {fl : List (Option Nat)} {q : vw_C}
    (hM : x_M G l y ws lv mc ms (.ref (x_b G + k) :: As) d r d2) (cw : va_CU R s args own Cn owner index x y bytes maxL ret ws (x_rm lv mc ms) mc ms n) (hk : x_sh[k]? = some (.inl (ci, fl))) (hc : vwCl[ci]? = some q) (hq : q.1 = Cn) (hn : As.length = n) {st : List Value} (hst : st = As.reverse ++ .ref (x_b G + k) :: rest) (hro : (rest.map fun v => v.category).sum ≤ 8) (hdg : decode cc pc = .ok (.invokevirtual index, 3)) (hf : cells + mc ≤ R.cells ∧ slots + ms ≤ R.slots)
    (kk : Ab G p l e R s m args below meth c nL (cells + mc) (slots + ms) Q (pc + 3) lst (r.toList ++ rest) d2) : Ab G p l e R s m args below meth c nL cells slots Q pc lst st d := by
  intro H locs ls hP hS hl
  subst hst
  subst hq
  exact x_go (free := x_A G) (va_runU (As := As) (rest := rest) C.1 hM cw ⟨x_blind G _ d, va_recv C.2.1 hP hc (x_get G d hk), x_pre C.2 hP hS⟩ rfl hn hl.1 rfl (lv_room hro) hdg hf) hS hl kk
theorem a_callSU (C : Cx G p s m args c cc Ts own nL) {y : MethodName} {bytes : ByteArray} {maxL mc ms n index lv k ci : Nat} {ret : Option FieldType} {ws : List Cond} {As : List Value} {r : Option Value} {d2 : xd} {fl : List (Option Nat)} {q : vw_C}
    (hM : x_M G l y ws lv mc ms (.ref (x_b G + k) :: As) d r d2) (cw : va_CS R s args own index y bytes maxL ret ws (x_rm lv mc ms) mc ms n) (hk : x_sh[k]? = some (.inl (ci, fl))) (hc : vwCl[ci]? = some q) (hn : As.length = n) {st : List Value} (hst : st = As.reverse ++ .ref (x_b G + k) :: rest) (hro : (rest.map fun v => v.category).sum ≤ 8) (hdg : decode cc pc = .ok (.invokespecial index, 3)) (hf : cells + mc ≤ R.cells ∧ slots + ms ≤ R.slots)
    (kk : Ab G p l e R s m args below meth c nL (cells + mc) (slots + ms) Q (pc + 3) lst (r.toList ++ rest) d2) : Ab G p l e R s m args below meth c nL cells slots Q pc lst st d := by
  intro H locs ls hP hS hl
  subst hst
  exact x_go (free := x_A G) (va_runSU (As := As) (rest := rest) (C.2.1.1 ci q hc).2 C.1 hM cw ⟨x_blind G _ d, va_recv C.2.1 hP hc (x_get G d hk), x_pre C.2 hP hS⟩ rfl hn hl.1 rfl (lv_room hro) hdg hf) hS hl kk
theorem a_aretN (C : Cx G p s m args c cc Ts own nL) (hlocks : meth.locks = false) {n : String} (hr : meth.sig.returnType = some (.object n)) {d2 : xd} (hdg : decode cc pc = .ok (.areturn, 1)) (hd : d = d2) : Ab G p l e R s m args below meth c nL cells slots (MQ below (x_Q G (some .null) d2) args s cells slots (x_A G)) pc lst [.null] d := fun H locs ls hP hS hl => by
  subst hd
  exact W.aret C.1.1 C.1.2.1 hr (Or.inl ⟨n, rfl⟩) (Or.inl rfl) (x_end hP hS) hS.2.2 hdg hlocks
end XROWS2

