/-! THE WORLD: one block of cells from the address x_b on, each of a fixed shape (x_sh); what they hold is one table of ints: d k j is place j of cell k. -/
abbrev xG : Type := Nat × va_G × (Nat → ClassId) × (Nat → Nat → Nat) × (Nat → Prop)
def x_b (G : xG) : Nat := G.1
def x_D (G : xG) : va_G := G.2.1
def x_c (G : xG) : Nat → ClassId := G.2.2.1
def x_e (G : xG) : Nat → Nat → Nat := G.2.2.2.1
abbrev xd : Type := Nat → Nat → Int32
abbrev xS : Type := (Nat × List (Option Nat)) ⊕ (Nat × Nat)
/-- the kinds of arrays: 0 int, 1 char, 2 boolean, 3 byte, 4 State, 5 Verb, 6 int[] (of the law alone) -/
def x_ty (G : xG) : List (ClassId × FieldType) := [(x_c G 0, .int), (x_c G 1, .char), (x_c G 2, .boolean), (x_c G 3, .byte), (x_c G 4, .object "LampCooperative$State"), (x_c G 5, .object "LampCooperative$Verb"), (x_c G 6, .array .int)]
def x_bz (x : Int32) : Int32 := if x = 0 then 0 else 1
/-- a Verb or null: 0 is null, v + 1 the constant v -/
def x_vr (G : xG) (x : Int32) : Option Nat := if x = 0 then none else some (x_e G 0 (x.toNatClampNeg - 1))
def x_r (d : xd) (k : Nat) (f : Nat → Int32) : xd := fun i => if i = k then f else d i
def x_p (d : xd) (k j : Nat) (v : Int32) : xd := x_r d k (upd (d k) j v)
theorem x_r_same (d : xd) (k : Nat) (f : Nat → Int32) : x_r d k f k = f := if_pos rfl
theorem x_r_ne (d : xd) {k i : Nat} (f : Nat → Int32) (h : i ≠ k) : x_r d k f i = d i := if_neg h
theorem x_r_ne2 {d : xd} {k i : Nat} {f : Nat → Int32} (h : i ≠ k) : x_r d k f i = d i := if_neg h
theorem x_p_ne {d : xd} {k i j : Nat} {v : Int32} (h : i ≠ k) : x_p d k j v i = d i := if_neg h
theorem x_p_at {d : xd} {k j : Nat} {v : Int32} : x_p d k j v k j = v := by simp [x_p, x_r, upd]
theorem x_p_row {d : xd} {k i j : Nat} {v : Int32} (h : i ≠ j) : x_p d k j v k i = d k i := by simp [x_p, x_r, upd, h]
def x_fl (b : Nat) (f : Nat → Int32) : Nat → List (Option Nat) → List Value
  | _, [] => []
  | j, none :: r => .int (f j) :: x_fl b f (j + 1) r
  | j, some o :: r => .ref (b + o) :: x_fl b f (j + 1) r
def x_ar (G : xG) (f : Nat → Int32) (t n : Nat) : va_E := match t with
  | 0 => .inl (x_c G 0, n, .inl f)
  | 1 => .inl (x_c G 1, n, .inl f)
  | 2 => .inl (x_c G 2, n, .inl (fun j => x_bz (f j)))
  | 3 => .inl (x_c G 3, n, .inl f)
  | 4 => .inl (x_c G 4, n, .inr (.inr (.inr (.inr (fun j => some (x_b G + (45 + 14 * j)))))))
  | _ => .inl (x_c G 5, n, .inr (.inr (.inr (.inr (fun j => x_vr G (f j))))))
def x_cell (G : xG) (f : Nat → Int32) (sh : xS) : va_E := match sh with
  | .inl q => .inr (q.1, x_fl (x_b G) f 0 q.2)
  | .inr q => x_ar G f q.1 q.2
/-- the 14 cells of a State at o: State, Lamps and its seven rows, Moths and its three, Books -/
def x_so (o : Nat) : List xS := [.inl (10, [some (o + 1), some (o + 9), some (o + 13)]), .inl (7, [none, some (o + 2), some (o + 3), some (o + 4), some (o + 5), some (o + 6), some (o + 7), some (o + 8)]), .inr (0, 8), .inr (0, 8), .inr (0, 8), .inr (2, 8), .inr (0, 8), .inr (0, 8), .inr (0, 8), .inl (8, [none, some (o + 10), some (o + 11), some (o + 12)]), .inr (0, 6), .inr (0, 6), .inr (0, 6), .inl (4, [none, none, none, none, none, none, none, none, none, none])]
def x_sh : List xS :=
  .inl (11, [some 1, some 15, some 29, none, some 43, some 157, some 159, some 163, some 167, some 168, some 173, none, none]) :: (x_so 1 ++ (x_so 15 ++ (x_so 29 ++
  (.inl (6, [none, none, some 44]) :: .inr (4, 8) :: (x_so 45 ++ (x_so 59 ++ (x_so 73 ++ (x_so 87 ++ (x_so 101 ++ (x_so 115 ++ (x_so 129 ++ (x_so 143 ++
  [.inl (9, [some 158]), .inr (2, 8), .inl (3, [some 160, some 161, some 162]), .inr (0, 8), .inr (0, 8), .inr (0, 8), .inl (3, [some 164, some 165, some 166]), .inr (0, 8), .inr (0, 8), .inr (0, 8), .inr (0, 8),
   .inl (5, [some 169, none, none, none, some 170, some 171, some 172]), .inr (1, 60), .inr (5, 15), .inr (0, 15), .inr (0, 15), .inl (1, [some 174, none, none, none]), .inr (3, 16)]))))))))))))
def x_ws (G : xG) (d : xd) : va_W := x_sh.mapIdx (fun k sh => (x_b G + k, x_cell G (d k) sh))
/-- where the block lies: what calls of it may change -/
def x_A (G : xG) : Nat → Prop := G.2.2.2.2
def x_inb (G : xG) : Prop := ∀ k : Nat, k < 175 → x_A G (x_b G + k)
theorem x_sh_len : x_sh.length = 175 := by decide +kernel
theorem x_get (G : xG) (d : xd) {k : Nat} {sh : xS} (h : x_sh[k]? = some sh) : (x_ws G d)[k]? = some (x_b G + k, x_cell G (d k) sh) := by
  simp [x_ws, List.getElem?_mapIdx, h]
theorem x_Dok {G : xG} (hin : x_inb G) (d : xd) : va_D (x_A G) (x_ws G d) := by
  refine ⟨fun i j p q hi hj hpq => ?_, fun k q hk => ?_⟩
  · simp only [x_ws, List.getElem?_mapIdx, Option.map_eq_some_iff] at hi hj
    obtain ⟨a, -, rfl⟩ := hi
    obtain ⟨b, -, rfl⟩ := hj
    have hpq : x_b G + i = x_b G + j := hpq
    omega
  · simp only [x_ws, List.getElem?_mapIdx, Option.map_eq_some_iff] at hk
    obtain ⟨a, ha, rfl⟩ := hk
    have hl := (List.getElem?_eq_some_iff.mp ha).1
    exact hin k (by rw [x_sh_len] at hl; exact hl)
theorem x_set (G : xG) (d : xd) {k : Nat} {sh : xS} (f : Nat → Int32) (h : x_sh[k]? = some sh) : (x_ws G d).set k (x_b G + k, x_cell G f sh) = x_ws G (x_r d k f) := by
  refine List.ext_getElem? fun i => ?_
  by_cases hi : i = k
  · subst hi
    have hl : i < (x_ws G d).length := (List.getElem?_eq_some_iff.mp (x_get G d h)).1
    rw [List.getElem?_set_self hl, x_get G (x_r d i f) h, x_r_same]
  · rw [List.getElem?_set_ne (Ne.symm hi)]
    simp only [x_ws, List.getElem?_mapIdx, x_r_ne d f hi]
theorem x_fl_get (b : Nat) (f : Nat → Int32) : ∀ (fl : List (Option Nat)) (j k : Nat), (x_fl b f j fl)[k]? = (fl[k]?).map (fun o => match o with | none => .int (f (j + k)) | some o => .ref (b + o)) := by
  intro fl
  induction fl with
  | nil => intro j k; simp [x_fl]
  | cons a r ih =>
    intro j k
    cases k with
    | zero => cases a <;> simp [x_fl]
    | succ k =>
      have e : j + 1 + k = j + (k + 1) := by omega
      cases a <;> simp [x_fl, ih, e]
theorem x_fl_len (b : Nat) (f : Nat → Int32) : ∀ (fl : List (Option Nat)) (j : Nat), (x_fl b f j fl).length = fl.length := by
  intro fl
  induction fl with
  | nil => intro j; rfl
  | cons a r ih => intro j; cases a <;> simp [x_fl, ih]
theorem x_fl_cong (b : Nat) {f g : Nat → Int32} : ∀ (fl : List (Option Nat)) (j : Nat), (∀ i, j ≤ i → f i = g i) → x_fl b f j fl = x_fl b g j fl := by
  intro fl
  induction fl with
  | nil => intro j _; rfl
  | cons a r ih =>
    intro j h
    have h1 := ih (j + 1) (fun i hi => h i (by omega))
    cases a <;> simp [x_fl, h1, h j (Nat.le_refl j)]
theorem x_fl_set (b : Nat) (f : Nat → Int32) (v : Int32) : ∀ (fl : List (Option Nat)) (j k : Nat), fl[k]? = some none → (x_fl b f j fl).set k (.int v) = x_fl b (upd f (j + k) v) j fl := by
  intro fl
  induction fl with
  | nil => intro j k h; simp at h
  | cons a r ih =>
    intro j k h
    cases k with
    | zero =>
      simp only [List.getElem?_cons_zero, Option.some.injEq] at h
      subst h
      have h1 : x_fl b f (j + 1) r = x_fl b (upd f j v) (j + 1) r := x_fl_cong b r (j + 1) (fun i hi => by simp [upd, show i ≠ j by omega])
      rw [Nat.add_zero]
      show Value.int v :: x_fl b f (j + 1) r = Value.int (upd f j v j) :: x_fl b (upd f j v) (j + 1) r
      rw [← h1]
      simp [upd]
    | succ k =>
      simp only [List.getElem?_cons_succ] at h
      have h1 := ih (j + 1) k h
      have e : j + 1 + k = j + (k + 1) := by omega
      rw [e] at h1
      cases a <;> simp [x_fl, List.set_cons_succ, h1, upd]
/-! what the tables and the start give, carried along -/
def x_msgs : List (String × Nat × String) := [("LampCooperative", 379, "there is no such lamp"), ("LampCooperative", 384, "an argument is out of range"), ("LampCooperative", 389, "the cooperative cannot do this now"), ("LampCooperative", 395, "there is no such moth"), ("LampCooperative", 397, "there is no such street"), ("LampCooperative", 264, "the cap is not from 1 to 5"), ("LampCooperative", 274, "there are no lamps"), ("LampCooperative", 399, "there is no such rank"), ("LampCooperative", 325, "the character is not from 32 to 126"), ("LampCooperative", 332, "the text buffer is full"), ("LampCooperative", 346, "the text is malformed"), ("LampCooperative", 357, "a command failed"), ("LampCooperative", 359, "no text was malformed so far"), ("LampCooperative", 361, "no command failed so far"), ("LampCooperative", 366, "nothing can be undone"), ("LampCooperative", 371, "there is no snapshot")]
def x_vnm : List String := ["LAMP", "REMOVE", "OIL", "WICK", "GIVE", "BRIGHT", "ON", "OFF", "MOTH", "CAP", "NIGHT", "PAY", "BUY"]
def x_vF : List (String × String × String × List Int32) := [("java/lang/Enum", "ordinal", "I", [0, 1, 2, 3, 4, 5, 6, 7, 8, 9, 10, 11, 12]), ("LampCooperative$Verb", "digits", "I", [2, 1, 0, 0, 2, 2, 1, 1, 1, 1, 0, 0, 1]), ("LampCooperative$Verb", "hasNumber", "Z", [0, 0, 1, 1, 0, 0, 0, 0, 0, 0, 0, 0, 1])]
def x_rnm : List String := ["NONE", "INDEX", "ARGUMENT", "STATE"]
/-- the verbs' words, as bytes; from 13 on the law's texts -/
def x_wb : List (List Int32) := [[108, 97, 109, 112], [114, 101, 109, 111, 118, 101], [111, 105, 108], [119, 105, 99, 107], [103, 105, 118, 101], [98, 114, 105, 103, 104, 116], [111, 110], [111, 102, 102], [109, 111, 116, 104], [99, 97, 112], [110, 105, 103, 104, 116], [112, 97, 121], [98, 117, 121], [110, 105, 103, 104, 116, 59, 111, 105, 108, 32, 51, 51, 59, 110, 105, 103, 104, 116], [110, 105, 103, 104, 116, 59, 99, 97, 112, 32, 57], [111, 110, 32, 57], [111, 120], [111, 105, 108, 32, 49, 50, 51, 52], [98], [108, 97, 109, 112, 32, 48], [110, 105, 103, 104, 116, 32], [], [112, 97, 121, 59], [98, 117, 121, 32, 48], [99, 97, 112, 32, 120], [122], [108, 97, 109, 112, 32, 50, 32, 51, 59, 108, 97, 109, 112, 32, 49, 32, 50, 59, 108, 97, 109, 112, 32, 50, 32, 49, 59, 119, 105, 99, 107, 32, 50, 48, 59, 103, 105, 118, 101, 32, 48, 32, 52, 59, 103, 105, 118, 101, 32, 49, 32, 49]]
def x_wl : List Nat := [4, 6, 3, 4, 4, 6, 2, 3, 4, 3, 5, 3, 3, 18, 11, 4, 2, 8, 1, 6, 6, 0, 4, 5, 5, 1, 52]
/-- classes of exceptions that are no others' -/
def x_ncs : List (String × String) := [("java/lang/IllegalArgumentException", "java/lang/IllegalStateException"), ("java/lang/IndexOutOfBoundsException", "java/lang/IllegalStateException"), ("java/lang/IndexOutOfBoundsException", "java/lang/IllegalArgumentException"), ("java/lang/IllegalStateException", "java/lang/IllegalArgumentException")]
/-- what throws ask of the tables besides their good words -/
def x_ds : List MethodName := [Bundle.initS "java/lang/RuntimeException", Bundle.initS "java/lang/Exception", Bundle.initS Bundle.tN]
def x_cs : List String := ["java/lang/IndexOutOfBoundsException", "java/lang/IllegalArgumentException", "java/lang/IllegalStateException", "java/util/NoSuchElementException"]
/-- javac's numbers of the verbs in its switches -/
def x_sm (j : Nat) : Nat := ([1, 2, 3, 4, 5, 6, 7, 8, 9, 10, 13, 11, 12] : List Nat).getD j 0
/-- the verbs: their objects, their int fields; they differ pairwise -/
def x_Vn (ad : Nat → Nat) (A : Nat → Prop) (U : State) (H : Heap) : Prop :=
  (∀ i, i < x_vnm.length → va_O "LampCooperative$Verb" (ad i) A U H ∧ ∀ q ∈ x_vF, va_OF q.1 q.2.1 q.2.2.1 (.int (q.2.2.2.getD i 0)) (ad i) A U H) ∧ (∀ i j, i < x_vnm.length → j < x_vnm.length → ad i = ad j → i = j)
theorem x_Vn.moved {ad : Nat → Nat} {A : Nat → Prop} {u U : State} {H : Heap} (hvm : u.vm.Alike U.vm) (h : x_Vn ad A u H) : x_Vn ad A U H :=
  ⟨fun i hi => ⟨va_O.moved hvm (h.1 i hi).1, fun q hq => va_OF.moved hvm ((h.1 i hi).2 q hq)⟩, h.2⟩
theorem x_Vn.kept {ad : Nat → Nat} {A : Nat → Prop} {U : State} {H H1 : Heap} (h : x_Vn ad A U H) (hq : ∀ a : Nat, a < H.size → ¬ A a → H1[a]? = H[a]?) : x_Vn ad A U H1 :=
  ⟨fun i hi => ⟨(h.1 i hi).1.kept hq, fun q h9 => ((h.1 i hi).2 q h9).kept hq⟩, h.2⟩
def va_AI (U : State) : Prop := (Cond.arrayOver (.array .int)).before #[] U = true
theorem va_AI.moved {u U : State} (hvm : u.vm.Alike U.vm) (h : va_AI u) : va_AI U := over_moved hvm h
def x_E (G : xG) (U : State) (H : Heap) : Prop :=
  va_En "LampCooperative$Refusal" "LLampCooperative$Refusal;" x_rnm [] (x_e G 1) (x_A G) U H ∧
  x_Vn (x_e G 0) (x_A G) U H ∧
  (∀ i : Nat, i < 13 → va_OF "LampCooperative$Verb" "word" "Ljava/lang/String;" (.ref (x_e G 2 i)) (x_e G 0 i) (x_A G) U H) ∧
  vk_S 27 x_wl x_wb (x_e G 2) (x_e G 3) (x_A G) U H ∧
  va_Z "LampCooperative$CommandText" "VERBS" "[LLampCooperative$Verb;" (.ref (x_e G 4 0)) (x_A G) U H ∧
  va_T (.object "LampCooperative$Verb") (x_e G 4 0) 13 (fun j => .ref (x_e G 0 j)) (x_A G) U H ∧
  va_Z "LampCooperative$1" "$SwitchMap$LampCooperative$Verb" "[I" (.ref (x_e G 4 1)) (x_A G) U H ∧
  va_T .int (x_e G 4 1) 13 (fun j => .int (Int32.ofNat (x_sm j))) (x_A G) U H ∧
  vx_Zq Bundle.tN "UNASSIGNED_STACK" Bundle.steD (x_A G) U H ∧ vx_Zq Bundle.tN "SUPPRESSED_SENTINEL" Bundle.listD (x_A G) U H ∧
  va_Z "java/lang/String" "COMPACT_STRINGS" "Z" (.int 1) (x_A G) U H ∧
  va_AI U ∧
  True ∧
  True ∧
  True ∧
  (∀ q ∈ x_msgs, ∃ a : Nat, vk_R q.1 q.2.1 q.2.2 a U) ∧
  va_Nw (.methodLinkNest RX9 42 yX11_within RX11) U ∧ (∀ q ∈ x_ncs, va_Nc q.1 q.2 U) ∧ (∀ y ∈ x_ds, va_Nw (.declares y) U) ∧ (∀ q ∈ x_cs, va_Nw (.castable q q) U) ∧ va_Zq "jdk/internal/util/Preconditions" "SIOOBE_FORMATTER" "Ljava/util/function/BiFunction;" (x_A G) U H
def x_K (G : xG) (U : State) : Prop := va_K (x_D G) vwCl (x_ty G) U ∧ (x_b G ≤ U.heap.size ∧ x_inb G) ∧ x_E G U U.heap
theorem x_E.at {G : xG} {u U : State} {H H1 : Heap} (hW : u.WarmedH U.vm) (hq : ∀ a : Nat, a < H.size → ¬ x_A G a → H1[a]? = H[a]?) (h : x_E G u H) : x_E G U H1 := by
  have hv := hW.alike
  obtain ⟨h1, h2, h3, h4, h5, h6, h7, h8, h9, h10, h11, h12, h13, h14, h15, h16, h17, h18, h19, h20, h21⟩ := h
  exact ⟨(h1.moved hv).kept hq, (h2.moved hv).kept hq, fun i hi => ((h3 i hi).moved hv).kept hq, (h4.moved hv).kept hq, (h5.moved hv).kept hq, (h6.moved hv).kept hq, (h7.moved hv).kept hq, (h8.moved hv).kept hq, (h9.moved hv).kept hq, (h10.moved hv).kept hq, (h11.moved hv).kept hq, h12.moved hv, h13, h14, h15, fun q hq2 => (h16 q hq2).elim fun a ha => ⟨a, ha.warm hW⟩, h17.warmM hW, fun q hq2 => (h18 q hq2).moved hv, fun q hq2 => (h19 q hq2).warmD hW, fun q hq2 => (h20 q hq2).warmC hW, (h21.moved hv).kept hq⟩
theorem x_K.at {G : xG} {u U : State} {H : Heap} {locs : List Loc} (hW : u.WarmedH U.vm) (hS : va_S (x_A G) u.heap H locs) (hU : U.heap = H) (h : x_K G u) : x_K G U :=
  ⟨h.1.moved hW.alike, ⟨Nat.le_trans h.2.1.1 (by rw [hU]; exact hS.1), h.2.1.2⟩, by rw [hU]; exact x_E.at hW hS.2.1 h.2.2⟩
/-- the world as a state holds it -/
def x_U (G : xG) (d : xd) (U : State) : Prop := va_P (x_D G) vwCl (x_ws G d) U.heap ∧ x_K G U
def x_Q (G : xG) (r : Option Value) (d : xd) : Array Value → State → Outcome → State → Prop := fun _ st oc t => oc = .returned r ∧ va_P (x_D G) vwCl (x_ws G d) t.heap ∧ va_F (x_A G) st t
abbrev x_rm (lv mc ms : Nat) : Room := { frames := lv + 6, cells := mc, slots := ms, locals := 160 * lv }
/-- a method that returns: from the world d, with the arguments av, its answer is r and the world d' -/
def x_M (G : xG) (l : Launch) (y : MethodName) (ws : List Cond) (lv mc ms : Nat) (av : List Value) (d : xd) (r : Option Value) (d' : xd) : Prop := Met l y ws (x_rm lv mc ms) (va_Pc av (x_U G d)) (x_Q G r d') mc ms (x_A G)
def x_XC (G : xG) (E : String) (d : xd) : String → State → State → Prop := fun E2 st t => E2 = E ∧ va_P (x_D G) vwCl (x_ws G d) t.heap ∧ va_F (x_A G) st t
/-- a method that throws an E, the world d' behind it -/
def x_X (G : xG) (l : Launch) (y : MethodName) (ws : List Cond) (lv : Nat) (av : List Value) (d : xd) (E : String) (d' : xd) : Prop := vx_Met l y ws (x_rm lv 1 6) (va_Pc av (x_U G d)) (fun _ _ _ _ => False) (x_XC G E d') 1 6 (x_A G)
theorem x_blind (G : xG) (av : List Value) (d : xd) : FrameBlind (va_Pc av (x_U G d)) := by
  intro a U g mk q
  obtain ⟨q0, q1, q2, q3, q4⟩ := q
  exact ⟨q0, q1, va_K.moved (u := U) (U := U.calling g mk a) (Vm.Alike.refl U.vm) q2, q3, x_E.at (u := U) (U := U.calling g mk a) (H := U.heap) (State.WarmedH.refl U) (fun _ _ _ => rfl) q4⟩


/-- the places of States, of Apportionments -/
def x_isS (o : Nat) : Prop := o = 1 ∨ o = 15 ∨ o = 29 ∨ ∃ i, i < 8 ∧ o = 45 + 14 * i
def x_isA (a : Nat) : Prop := a = 159 ∨ a = 163
theorem x_isS_1 : x_isS 1 := Or.inl rfl
theorem x_isS_15 : x_isS 15 := Or.inr (Or.inl rfl)
theorem x_isS_29 : x_isS 29 := Or.inr (Or.inr (Or.inl rfl))
theorem x_isS_r (i : Nat) (h : i < 8) : x_isS (45 + 14 * i) := Or.inr (Or.inr (Or.inr ⟨i, h, rfl⟩))
theorem x_isA_0 : x_isA 159 := Or.inl rfl
theorem x_isA_1 : x_isA 163 := Or.inr rfl
theorem x_isS_in {o : Nat} {P : Nat → Prop} (h : x_isS o) (h1 : P 1) (h2 : P 15) (h3 : P 29) (r0 : P 45) (r1 : P 59) (r2 : P 73) (r3 : P 87) (r4 : P 101) (r5 : P 115) (r6 : P 129) (r7 : P 143) : P o := by
  rcases h with rfl | rfl | rfl | ⟨i, hi, rfl⟩
  · exact h1
  · exact h2
  · exact h3
  · rcases (show i = 0 ∨ i = 1 ∨ i = 2 ∨ i = 3 ∨ i = 4 ∨ i = 5 ∨ i = 6 ∨ i = 7 by omega) with rfl | rfl | rfl | rfl | rfl | rfl | rfl | rfl
    · exact r0
    · exact r1
    · exact r2
    · exact r3
    · exact r4
    · exact r5
    · exact r6
    · exact r7
theorem x_sS0 {o : Nat} (h : x_isS o) : x_sh[o]? = some (.inl (10, [some (o + 1), some (o + 9), some (o + 13)])) := x_isS_in (P := fun o => x_sh[o]? = some (.inl (10, [some (o + 1), some (o + 9), some (o + 13)]))) h rfl rfl rfl rfl rfl rfl rfl rfl rfl rfl rfl
theorem x_sS1 {o : Nat} (h : x_isS o) : x_sh[o + 1]? = some (.inl (7, [none, some (o + 2), some (o + 3), some (o + 4), some (o + 5), some (o + 6), some (o + 7), some (o + 8)])) := x_isS_in (P := fun o => x_sh[o + 1]? = some (.inl (7, [none, some (o + 2), some (o + 3), some (o + 4), some (o + 5), some (o + 6), some (o + 7), some (o + 8)]))) h rfl rfl rfl rfl rfl rfl rfl rfl rfl rfl rfl
theorem x_sS2 {o : Nat} (h : x_isS o) : x_sh[o + 2]? = some (.inr (0, 8)) := x_isS_in (P := fun o => x_sh[o + 2]? = some (.inr (0, 8))) h rfl rfl rfl rfl rfl rfl rfl rfl rfl rfl rfl
theorem x_sS3 {o : Nat} (h : x_isS o) : x_sh[o + 3]? = some (.inr (0, 8)) := x_isS_in (P := fun o => x_sh[o + 3]? = some (.inr (0, 8))) h rfl rfl rfl rfl rfl rfl rfl rfl rfl rfl rfl
theorem x_sS4 {o : Nat} (h : x_isS o) : x_sh[o + 4]? = some (.inr (0, 8)) := x_isS_in (P := fun o => x_sh[o + 4]? = some (.inr (0, 8))) h rfl rfl rfl rfl rfl rfl rfl rfl rfl rfl rfl
theorem x_sS5 {o : Nat} (h : x_isS o) : x_sh[o + 5]? = some (.inr (2, 8)) := x_isS_in (P := fun o => x_sh[o + 5]? = some (.inr (2, 8))) h rfl rfl rfl rfl rfl rfl rfl rfl rfl rfl rfl
theorem x_sS6 {o : Nat} (h : x_isS o) : x_sh[o + 6]? = some (.inr (0, 8)) := x_isS_in (P := fun o => x_sh[o + 6]? = some (.inr (0, 8))) h rfl rfl rfl rfl rfl rfl rfl rfl rfl rfl rfl
theorem x_sS7 {o : Nat} (h : x_isS o) : x_sh[o + 7]? = some (.inr (0, 8)) := x_isS_in (P := fun o => x_sh[o + 7]? = some (.inr (0, 8))) h rfl rfl rfl rfl rfl rfl rfl rfl rfl rfl rfl
theorem x_sS8 {o : Nat} (h : x_isS o) : x_sh[o + 8]? = some (.inr (0, 8)) := x_isS_in (P := fun o => x_sh[o + 8]? = some (.inr (0, 8))) h rfl rfl rfl rfl rfl rfl rfl rfl rfl rfl rfl
theorem x_sS9 {o : Nat} (h : x_isS o) : x_sh[o + 9]? = some (.inl (8, [none, some (o + 10), some (o + 11), some (o + 12)])) := x_isS_in (P := fun o => x_sh[o + 9]? = some (.inl (8, [none, some (o + 10), some (o + 11), some (o + 12)]))) h rfl rfl rfl rfl rfl rfl rfl rfl rfl rfl rfl
theorem x_sS10 {o : Nat} (h : x_isS o) : x_sh[o + 10]? = some (.inr (0, 6)) := x_isS_in (P := fun o => x_sh[o + 10]? = some (.inr (0, 6))) h rfl rfl rfl rfl rfl rfl rfl rfl rfl rfl rfl
theorem x_sS11 {o : Nat} (h : x_isS o) : x_sh[o + 11]? = some (.inr (0, 6)) := x_isS_in (P := fun o => x_sh[o + 11]? = some (.inr (0, 6))) h rfl rfl rfl rfl rfl rfl rfl rfl rfl rfl rfl
theorem x_sS12 {o : Nat} (h : x_isS o) : x_sh[o + 12]? = some (.inr (0, 6)) := x_isS_in (P := fun o => x_sh[o + 12]? = some (.inr (0, 6))) h rfl rfl rfl rfl rfl rfl rfl rfl rfl rfl rfl
theorem x_sS13 {o : Nat} (h : x_isS o) : x_sh[o + 13]? = some (.inl (4, [none, none, none, none, none, none, none, none, none, none])) := x_isS_in (P := fun o => x_sh[o + 13]? = some (.inl (4, [none, none, none, none, none, none, none, none, none, none]))) h rfl rfl rfl rfl rfl rfl rfl rfl rfl rfl rfl
theorem x_sA0 {o : Nat} (h : x_isA o) : x_sh[o]? = some (.inl (3, [some (o + 1), some (o + 2), some (o + 3)])) := by
  rcases h with rfl | rfl <;> rfl
theorem x_sA1 {o : Nat} (h : x_isA o) : x_sh[o + 1]? = some (.inr (0, 8)) := by
  rcases h with rfl | rfl <;> rfl
theorem x_sA2 {o : Nat} (h : x_isA o) : x_sh[o + 2]? = some (.inr (0, 8)) := by
  rcases h with rfl | rfl <;> rfl
theorem x_sA3 {o : Nat} (h : x_isA o) : x_sh[o + 3]? = some (.inr (0, 8)) := by
  rcases h with rfl | rfl <;> rfl
theorem x_k0 : x_sh[0]? = some (.inl (11, [some 1, some 15, some 29, none, some 43, some 157, some 159, some 163, some 167, some 168, some 173, none, none])) := rfl
theorem x_k43 : x_sh[43]? = some (.inl (6, [none, none, some 44])) := rfl
theorem x_k44 : x_sh[44]? = some (.inr (4, 8)) := rfl
theorem x_k157 : x_sh[157]? = some (.inl (9, [some 158])) := rfl
theorem x_k158 : x_sh[158]? = some (.inr (2, 8)) := rfl
theorem x_k159 : x_sh[159]? = some (.inl (3, [some 160, some 161, some 162])) := rfl
theorem x_k160 : x_sh[160]? = some (.inr (0, 8)) := rfl
theorem x_k161 : x_sh[161]? = some (.inr (0, 8)) := rfl
theorem x_k162 : x_sh[162]? = some (.inr (0, 8)) := rfl
theorem x_k163 : x_sh[163]? = some (.inl (3, [some 164, some 165, some 166])) := rfl
theorem x_k164 : x_sh[164]? = some (.inr (0, 8)) := rfl
theorem x_k165 : x_sh[165]? = some (.inr (0, 8)) := rfl
theorem x_k166 : x_sh[166]? = some (.inr (0, 8)) := rfl
theorem x_k167 : x_sh[167]? = some (.inr (0, 8)) := rfl
theorem x_k168 : x_sh[168]? = some (.inl (5, [some 169, none, none, none, some 170, some 171, some 172])) := rfl
theorem x_k169 : x_sh[169]? = some (.inr (1, 60)) := rfl
theorem x_k170 : x_sh[170]? = some (.inr (5, 15)) := rfl
theorem x_k171 : x_sh[171]? = some (.inr (0, 15)) := rfl
theorem x_k172 : x_sh[172]? = some (.inr (0, 15)) := rfl
theorem x_k173 : x_sh[173]? = some (.inl (1, [some 174, none, none, none])) := rfl
theorem x_k174 : x_sh[174]? = some (.inr (3, 16)) := rfl
theorem x_inc (a : Nat) : nI a + Int32.ofInt 1 = nI (a + 1) := nI_1 a
theorem x_add2 {x y : Int32} {a b : Nat} (hx : x = nI a) (hy : y = nI b) : x + y = nI (a + b) := by rw [hx, hy, nI_add]
theorem x_sub2 {x y : Int32} {a b : Nat} (hx : x = nI a) (hy : y = nI b) (h : b ≤ a) : x - y = nI (a - b) := by rw [hx, hy, pk_sub h]
theorem x_cl {i n : Nat} (hin : i < n) (hn : n < 2147483648) : (nI i).toNatClampNeg = i := nI_clamp (by omega)
theorem x_vp {i n : Nat} (hin : i < n) (hn : n < 2147483648) : vp_in (nI i) n := vp_in_nI hin (by omega)
def x_bi (c : Prop) [Decidable c] : Int32 := if c then 1 else 0
theorem x_nz (c : Prop) [Decidable c] : narrow .boolean (.int (x_bi c)) = .int (x_bi c) := by
  unfold x_bi
  split <;> rfl
theorem x_nbz (x : Int32) : narrow .boolean (.int (x_bz x)) = .int (x_bz x) := by
  unfold x_bz
  split <;> rfl
/-- what a method's walk stands on -/
def Cx (G : xG) (p : Program) (s : State) (m : MethodId) (args : Array Value) (c : Code) (cc : ByteArray) (Ts : List Cond) (own : String) (nL : Nat) : Prop := CallFix p m c cc nL s args Ts own ∧ x_K G s
/-- at pc, with the locals lst, the stack st, the world d: the walk comes to Q -/
def Ab (G : xG) (p : Program) (l : Launch) (e : Env) (R : Room) (s : State) (m : MethodId) (args : Array Value) (below : List Frame) (meth : Method) (c : Code) (nL cells slots : Nat) (Q : State → Prop) (pc : Nat) (lst : List (Nat × Value)) (st : List Value) (d : xd) : Prop :=
  ∀ (H : Heap) (locs : List Loc) (ls : Array Slot), va_P (x_D G) vwCl (x_ws G d) H → va_S (x_A G) s.heap H locs → lv_has ls nL lst → W p l e R s m args below meth c H locs cells slots Q (F0 m pc ls st)
section XROWS
variable {G : xG} {p : Program} {l : Launch} {e : Env} {R : Room} {s : State} {m : MethodId} {args : Array Value} {below : List Frame} {meth : Method} {c : Code} {nL cells slots : Nat} {Q : State → Prop} {cc : ByteArray} {Ts : List Cond} {own : String} {pc : Nat} {lst lst2 : List (Nat × Value)} {rest : List Value} {d : xd}
theorem a_iconst (C : Cx G p s m args c cc Ts own nL) {n : Int} {v : Int32} (hdg : decode cc pc = .ok (.iconst n, 1)) (hv : Int32.ofInt n = v) (k : Ab G p l e R s m args below meth c nL cells slots Q (pc + 1) lst (.int v :: rest) d) : Ab G p l e R s m args below meth c nL cells slots Q pc lst (rest) d := fun H locs ls hP hS hl => lv_iconst C.1.1 C.1.2.1 hdg hv (k H locs ls hP hS hl)
theorem a_bipush (C : Cx G p s m args c cc Ts own nL) {n : Int} {v : Int32} (hdg : decode cc pc = .ok (.bipush n, 2)) (hv : (Int8.ofInt n).toInt32 = v) (k : Ab G p l e R s m args below meth c nL cells slots Q (pc + 2) lst (.int v :: rest) d) : Ab G p l e R s m args below meth c nL cells slots Q pc lst (rest) d := fun H locs ls hP hS hl => lv_bipush C.1.1 C.1.2.1 hdg hv (k H locs ls hP hS hl)
theorem a_sipush (C : Cx G p s m args c cc Ts own nL) {n : Int} {v : Int32} (hdg : decode cc pc = .ok (.sipush n, 3)) (hv : (Int16.ofInt n).toInt32 = v) (k : Ab G p l e R s m args below meth c nL cells slots Q (pc + 3) lst (.int v :: rest) d) : Ab G p l e R s m args below meth c nL cells slots Q pc lst (rest) d := fun H locs ls hP hS hl => lv_sipush C.1.1 C.1.2.1 hdg hv (k H locs ls hP hS hl)
theorem a_iload_n (C : Cx G p s m args c cc Ts own nL) {i : Fin 4} {x : Int32} (hdg : decode cc pc = .ok (.iload_n i, 1)) (q : Nat) (hk : lst[q]? = some (i.val, .int x)) (k : Ab G p l e R s m args below meth c nL cells slots Q (pc + 1) lst (.int x :: rest) d) : Ab G p l e R s m args below meth c nL cells slots Q pc lst (rest) d := fun H locs ls hP hS hl => lv_iload_n C.1.1 C.1.2.1 hdg rfl (lv_at hl q hk) (k H locs ls hP hS hl)
theorem a_iload (C : Cx G p s m args c cc Ts own nL) {i : Nat} {x : Int32} (hdg : decode cc pc = .ok (.iload i, 2)) (q : Nat) (hk : lst[q]? = some (i, .int x)) (k : Ab G p l e R s m args below meth c nL cells slots Q (pc + 2) lst (.int x :: rest) d) : Ab G p l e R s m args below meth c nL cells slots Q pc lst (rest) d := fun H locs ls hP hS hl => lv_iload C.1.1 C.1.2.1 hdg (lv_at hl q hk) (k H locs ls hP hS hl)
theorem a_aload_n (C : Cx G p s m args c cc Ts own nL) {i : Fin 4} {x : Nat} (hdg : decode cc pc = .ok (.aload_n i, 1)) (q : Nat) (hk : lst[q]? = some (i.val, .ref x)) (k : Ab G p l e R s m args below meth c nL cells slots Q (pc + 1) lst (.ref x :: rest) d) : Ab G p l e R s m args below meth c nL cells slots Q pc lst (rest) d := fun H locs ls hP hS hl => lv_aload_n C.1.1 C.1.2.1 hdg rfl (lv_at hl q hk) (k H locs ls hP hS hl)
theorem a_aload (C : Cx G p s m args c cc Ts own nL) {i : Nat} {x : Nat} (hdg : decode cc pc = .ok (.aload i, 2)) (q : Nat) (hk : lst[q]? = some (i, .ref x)) (k : Ab G p l e R s m args below meth c nL cells slots Q (pc + 2) lst (.ref x :: rest) d) : Ab G p l e R s m args below meth c nL cells slots Q pc lst (rest) d := fun H locs ls hP hS hl => lv_aload C.1.1 C.1.2.1 hdg (lv_at hl q hk) (k H locs ls hP hS hl)
theorem a_iadd (C : Cx G p s m args c cc Ts own nL) {x y : Int32} (hdg : decode cc pc = .ok (.iadd, 1))  (k : Ab G p l e R s m args below meth c nL cells slots Q (pc + 1) lst (.int (x + y) :: rest) d) : Ab G p l e R s m args below meth c nL cells slots Q pc lst (.int y :: .int x :: rest) d := fun H locs ls hP hS hl => lv_iadd C.1.1 C.1.2.1 hdg  (k H locs ls hP hS hl)
theorem a_isub (C : Cx G p s m args c cc Ts own nL) {x y : Int32} (hdg : decode cc pc = .ok (.isub, 1))  (k : Ab G p l e R s m args below meth c nL cells slots Q (pc + 1) lst (.int (x - y) :: rest) d) : Ab G p l e R s m args below meth c nL cells slots Q pc lst (.int y :: .int x :: rest) d := fun H locs ls hP hS hl => lv_isub C.1.1 C.1.2.1 hdg  (k H locs ls hP hS hl)
theorem a_imul (C : Cx G p s m args c cc Ts own nL) {x y : Int32} (hdg : decode cc pc = .ok (.imul, 1))  (k : Ab G p l e R s m args below meth c nL cells slots Q (pc + 1) lst (.int (x * y) :: rest) d) : Ab G p l e R s m args below meth c nL cells slots Q pc lst (.int y :: .int x :: rest) d := fun H locs ls hP hS hl => lv_imul C.1.1 C.1.2.1 hdg  (k H locs ls hP hS hl)
theorem a_iand (C : Cx G p s m args c cc Ts own nL) {x y : Int32} (hdg : decode cc pc = .ok (.iand, 1))  (k : Ab G p l e R s m args below meth c nL cells slots Q (pc + 1) lst (.int (x &&& y) :: rest) d) : Ab G p l e R s m args below meth c nL cells slots Q pc lst (.int y :: .int x :: rest) d := fun H locs ls hP hS hl => lv_iand C.1.1 C.1.2.1 hdg  (k H locs ls hP hS hl)
theorem a_ior (C : Cx G p s m args c cc Ts own nL) {x y : Int32} (hdg : decode cc pc = .ok (.ior, 1))  (k : Ab G p l e R s m args below meth c nL cells slots Q (pc + 1) lst (.int (x ||| y) :: rest) d) : Ab G p l e R s m args below meth c nL cells slots Q pc lst (.int y :: .int x :: rest) d := fun H locs ls hP hS hl => lv_ior C.1.1 C.1.2.1 hdg  (k H locs ls hP hS hl)
theorem a_ishl (C : Cx G p s m args c cc Ts own nL) {x y : Int32} (hdg : decode cc pc = .ok (.ishl, 1))  (k : Ab G p l e R s m args below meth c nL cells slots Q (pc + 1) lst (.int (x <<< (y &&& 31)) :: rest) d) : Ab G p l e R s m args below meth c nL cells slots Q pc lst (.int y :: .int x :: rest) d := fun H locs ls hP hS hl => lv_ishl C.1.1 C.1.2.1 hdg  (k H locs ls hP hS hl)
theorem a_ishr (C : Cx G p s m args c cc Ts own nL) {x y : Int32} (hdg : decode cc pc = .ok (.ishr, 1))  (k : Ab G p l e R s m args below meth c nL cells slots Q (pc + 1) lst (.int (x >>> (y &&& 31)) :: rest) d) : Ab G p l e R s m args below meth c nL cells slots Q pc lst (.int y :: .int x :: rest) d := fun H locs ls hP hS hl => lv_ishr C.1.1 C.1.2.1 hdg  (k H locs ls hP hS hl)
theorem a_idiv (C : Cx G p s m args c cc Ts own nL) {x y : Int32} (hdg : decode cc pc = .ok (.idiv, 1)) (hne : ¬ y = 0) (k : Ab G p l e R s m args below meth c nL cells slots Q (pc + 1) lst (.int (x / y) :: rest) d) : Ab G p l e R s m args below meth c nL cells slots Q pc lst (.int y :: .int x :: rest) d := fun H locs ls hP hS hl => lv_idiv C.1.1 C.1.2.1 hdg hne (k H locs ls hP hS hl)
theorem a_irem (C : Cx G p s m args c cc Ts own nL) {x y : Int32} (hdg : decode cc pc = .ok (.irem, 1)) (hne : ¬ y = 0) (k : Ab G p l e R s m args below meth c nL cells slots Q (pc + 1) lst (.int (x - x / y * y) :: rest) d) : Ab G p l e R s m args below meth c nL cells slots Q pc lst (.int y :: .int x :: rest) d := fun H locs ls hP hS hl => lv_irem C.1.1 C.1.2.1 hdg hne (k H locs ls hP hS hl)
theorem a_ineg (C : Cx G p s m args c cc Ts own nL) {x : Int32} (hdg : decode cc pc = .ok (.ineg, 1))  (k : Ab G p l e R s m args below meth c nL cells slots Q (pc + 1) lst (.int (-x) :: rest) d) : Ab G p l e R s m args below meth c nL cells slots Q pc lst (.int x :: rest) d := fun H locs ls hP hS hl => lv_ineg C.1.1 C.1.2.1 hdg  (k H locs ls hP hS hl)
theorem a_i2c (C : Cx G p s m args c cc Ts own nL) {x : Int32} {v : Int32} (hdg : decode cc pc = .ok (.i2c, 1)) (hv : (x.toUInt32 % 65536).toInt32 = v) (k : Ab G p l e R s m args below meth c nL cells slots Q (pc + 1) lst (.int v :: rest) d) : Ab G p l e R s m args below meth c nL cells slots Q pc lst (.int x :: rest) d := fun H locs ls hP hS hl => lv_i2c C.1.1 C.1.2.1 hdg hv (k H locs ls hP hS hl)
theorem a_dup (C : Cx G p s m args c cc Ts own nL) {va : Value} (hdg : decode cc pc = .ok (.dup, 1)) (hva : va.category = 1) (k : Ab G p l e R s m args below meth c nL cells slots Q (pc + 1) lst (va :: va :: rest) d) : Ab G p l e R s m args below meth c nL cells slots Q pc lst (va :: rest) d := fun H locs ls hP hS hl => lv_dup C.1.1 C.1.2.1 hdg hva (k H locs ls hP hS hl)
theorem a_pop (C : Cx G p s m args c cc Ts own nL) {va : Value} (hdg : decode cc pc = .ok (.pop, 1)) (hva : va.category = 1) (k : Ab G p l e R s m args below meth c nL cells slots Q (pc + 1) lst (rest) d) : Ab G p l e R s m args below meth c nL cells slots Q pc lst (va :: rest) d := fun H locs ls hP hS hl => lv_pop C.1.1 C.1.2.1 hdg hva (k H locs ls hP hS hl)
theorem a_dup2 (C : Cx G p s m args c cc Ts own nL) {va vb : Value} (hdg : decode cc pc = .ok (.dup2, 1)) (hva : va.category = 1) (hvb : vb.category = 1) (k : Ab G p l e R s m args below meth c nL cells slots Q (pc + 1) lst (va :: vb :: va :: vb :: rest) d) : Ab G p l e R s m args below meth c nL cells slots Q pc lst (va :: vb :: rest) d := fun H locs ls hP hS hl => lv_dup2_11 C.1.1 C.1.2.1 hdg hva hvb (k H locs ls hP hS hl)
theorem a_null (C : Cx G p s m args c cc Ts own nL)  (hdg : decode cc pc = .ok (.aconst_null, 1))  (k : Ab G p l e R s m args below meth c nL cells slots Q (pc + 1) lst (.null :: rest) d) : Ab G p l e R s m args below meth c nL cells slots Q pc lst (rest) d := fun H locs ls hP hS hl => lv_null C.1.1 C.1.2.1 hdg  (k H locs ls hP hS hl)
theorem a_istore_n (C : Cx G p s m args c cc Ts own nL) {i : Fin 4} {x : Int32} (hdg : decode cc pc = .ok (.istore_n i, 1)) (hn : i.val < nL) (hl2 : (i.val, Value.int x) :: lst.filter (fun q => !(q.1 == i.val) && !(q.1 + 1 == i.val && q.2.category == 2)) = lst2) (k : Ab G p l e R s m args below meth c nL cells slots Q (pc + 1) lst2 rest d) : Ab G p l e R s m args below meth c nL cells slots Q pc lst (.int x :: rest) d := fun H locs ls hP hS hl => lv_istore_n C.1.1 C.1.2.1 hdg rfl hl hn hl2 (fun ls2 h2 => k H locs ls2 hP hS h2)
theorem a_istore (C : Cx G p s m args c cc Ts own nL) {i : Nat} {x : Int32} (hdg : decode cc pc = .ok (.istore i, 2)) (hn : i < nL) (hl2 : (i, Value.int x) :: lst.filter (fun q => !(q.1 == i) && !(q.1 + 1 == i && q.2.category == 2)) = lst2) (k : Ab G p l e R s m args below meth c nL cells slots Q (pc + 2) lst2 rest d) : Ab G p l e R s m args below meth c nL cells slots Q pc lst (.int x :: rest) d := fun H locs ls hP hS hl => lv_istore C.1.1 C.1.2.1 hdg  hl hn hl2 (fun ls2 h2 => k H locs ls2 hP hS h2)
theorem a_astore_n (C : Cx G p s m args c cc Ts own nL) {i : Fin 4} {x : Nat} (hdg : decode cc pc = .ok (.astore_n i, 1)) (hn : i.val < nL) (hl2 : (i.val, Value.ref x) :: lst.filter (fun q => !(q.1 == i.val) && !(q.1 + 1 == i.val && q.2.category == 2)) = lst2) (k : Ab G p l e R s m args below meth c nL cells slots Q (pc + 1) lst2 rest d) : Ab G p l e R s m args below meth c nL cells slots Q pc lst (.ref x :: rest) d := fun H locs ls hP hS hl => lv_astore_n C.1.1 C.1.2.1 hdg rfl hl hn hl2 (fun ls2 h2 => k H locs ls2 hP hS h2)
theorem a_astore (C : Cx G p s m args c cc Ts own nL) {i : Nat} {x : Nat} (hdg : decode cc pc = .ok (.astore i, 2)) (hn : i < nL) (hl2 : (i, Value.ref x) :: lst.filter (fun q => !(q.1 == i) && !(q.1 + 1 == i && q.2.category == 2)) = lst2) (k : Ab G p l e R s m args below meth c nL cells slots Q (pc + 2) lst2 rest d) : Ab G p l e R s m args below meth c nL cells slots Q pc lst (.ref x :: rest) d := fun H locs ls hP hS hl => lv_astore C.1.1 C.1.2.1 hdg  hl hn hl2 (fun ls2 h2 => k H locs ls2 hP hS h2)
theorem a_iinc (C : Cx G p s m args c cc Ts own nL) {i : Nat} {n : Int} {x v : Int32} (hdg : decode cc pc = .ok (.iinc i n, 3)) (q : Nat) (hk : lst[q]? = some (i, .int x)) (hv : x + Int32.ofInt n = v) (hn : i < nL) (hl2 : (i, Value.int v) :: lst.filter (fun q => !(q.1 == i) && !(q.1 + 1 == i && q.2.category == 2)) = lst2) (k : Ab G p l e R s m args below meth c nL cells slots Q (pc + 3) lst2 rest d) : Ab G p l e R s m args below meth c nL cells slots Q pc lst rest d := fun H locs ls hP hS hl => lv_iinc C.1.1 C.1.2.1 hdg hl hk hv hn hl2 (fun ls2 h2 => k H locs ls2 hP hS h2)
theorem a_if_eq (C : Cx G p s m args c cc Ts own nL) {x : Int32} {off : Int} {tgt : Nat} (hdg : decode cc pc = .ok (.ifCond .eq off, 3)) (ht : (pc : Int) + off = (tgt : Int)) (kt : x = 0 → Ab G p l e R s m args below meth c nL cells slots Q tgt lst rest d) (kf : ¬ x = 0 → Ab G p l e R s m args below meth c nL cells slots Q (pc + 3) lst rest d) : Ab G p l e R s m args below meth c nL cells slots Q pc lst (.int x :: rest) d := fun H locs ls hP hS hl => lv_if_eq C.1.1 C.1.2.1 hdg ht (fun h => kt h H locs ls hP hS hl) (fun h => kf h H locs ls hP hS hl)
theorem a_if_ne (C : Cx G p s m args c cc Ts own nL) {x : Int32} {off : Int} {tgt : Nat} (hdg : decode cc pc = .ok (.ifCond .ne off, 3)) (ht : (pc : Int) + off = (tgt : Int)) (kt : ¬ x = 0 → Ab G p l e R s m args below meth c nL cells slots Q tgt lst rest d) (kf : x = 0 → Ab G p l e R s m args below meth c nL cells slots Q (pc + 3) lst rest d) : Ab G p l e R s m args below meth c nL cells slots Q pc lst (.int x :: rest) d := fun H locs ls hP hS hl => lv_if_ne C.1.1 C.1.2.1 hdg ht (fun h => kt h H locs ls hP hS hl) (fun h => kf h H locs ls hP hS hl)
theorem a_if_lt (C : Cx G p s m args c cc Ts own nL) {x : Int32} {off : Int} {tgt : Nat} (hdg : decode cc pc = .ok (.ifCond .lt off, 3)) (ht : (pc : Int) + off = (tgt : Int)) (kt : x < 0 → Ab G p l e R s m args below meth c nL cells slots Q tgt lst rest d) (kf : ¬ x < 0 → Ab G p l e R s m args below meth c nL cells slots Q (pc + 3) lst rest d) : Ab G p l e R s m args below meth c nL cells slots Q pc lst (.int x :: rest) d := fun H locs ls hP hS hl => lv_if_lt C.1.1 C.1.2.1 hdg ht (fun h => kt h H locs ls hP hS hl) (fun h => kf h H locs ls hP hS hl)
theorem a_if_ge (C : Cx G p s m args c cc Ts own nL) {x : Int32} {off : Int} {tgt : Nat} (hdg : decode cc pc = .ok (.ifCond .ge off, 3)) (ht : (pc : Int) + off = (tgt : Int)) (kt : 0 ≤ x → Ab G p l e R s m args below meth c nL cells slots Q tgt lst rest d) (kf : ¬ 0 ≤ x → Ab G p l e R s m args below meth c nL cells slots Q (pc + 3) lst rest d) : Ab G p l e R s m args below meth c nL cells slots Q pc lst (.int x :: rest) d := fun H locs ls hP hS hl => lv_if_ge C.1.1 C.1.2.1 hdg ht (fun h => kt h H locs ls hP hS hl) (fun h => kf h H locs ls hP hS hl)
theorem a_if_gt (C : Cx G p s m args c cc Ts own nL) {x : Int32} {off : Int} {tgt : Nat} (hdg : decode cc pc = .ok (.ifCond .gt off, 3)) (ht : (pc : Int) + off = (tgt : Int)) (kt : 0 < x → Ab G p l e R s m args below meth c nL cells slots Q tgt lst rest d) (kf : ¬ 0 < x → Ab G p l e R s m args below meth c nL cells slots Q (pc + 3) lst rest d) : Ab G p l e R s m args below meth c nL cells slots Q pc lst (.int x :: rest) d := fun H locs ls hP hS hl => lv_if_gt C.1.1 C.1.2.1 hdg ht (fun h => kt h H locs ls hP hS hl) (fun h => kf h H locs ls hP hS hl)
theorem a_if_le (C : Cx G p s m args c cc Ts own nL) {x : Int32} {off : Int} {tgt : Nat} (hdg : decode cc pc = .ok (.ifCond .le off, 3)) (ht : (pc : Int) + off = (tgt : Int)) (kt : x ≤ 0 → Ab G p l e R s m args below meth c nL cells slots Q tgt lst rest d) (kf : ¬ x ≤ 0 → Ab G p l e R s m args below meth c nL cells slots Q (pc + 3) lst rest d) : Ab G p l e R s m args below meth c nL cells slots Q pc lst (.int x :: rest) d := fun H locs ls hP hS hl => lv_if_le C.1.1 C.1.2.1 hdg ht (fun h => kt h H locs ls hP hS hl) (fun h => kf h H locs ls hP hS hl)
theorem a_icmp_eq (C : Cx G p s m args c cc Ts own nL) {x y : Int32} {off : Int} {tgt : Nat} (hdg : decode cc pc = .ok (.if_icmp .eq off, 3)) (ht : (pc : Int) + off = (tgt : Int)) (kt : x = y → Ab G p l e R s m args below meth c nL cells slots Q tgt lst rest d) (kf : ¬ x = y → Ab G p l e R s m args below meth c nL cells slots Q (pc + 3) lst rest d) : Ab G p l e R s m args below meth c nL cells slots Q pc lst (.int y :: .int x :: rest) d := fun H locs ls hP hS hl => lv_icmp_eq C.1.1 C.1.2.1 hdg ht (fun h => kt h H locs ls hP hS hl) (fun h => kf h H locs ls hP hS hl)
theorem a_icmp_ne (C : Cx G p s m args c cc Ts own nL) {x y : Int32} {off : Int} {tgt : Nat} (hdg : decode cc pc = .ok (.if_icmp .ne off, 3)) (ht : (pc : Int) + off = (tgt : Int)) (kt : ¬ x = y → Ab G p l e R s m args below meth c nL cells slots Q tgt lst rest d) (kf : x = y → Ab G p l e R s m args below meth c nL cells slots Q (pc + 3) lst rest d) : Ab G p l e R s m args below meth c nL cells slots Q pc lst (.int y :: .int x :: rest) d := fun H locs ls hP hS hl => lv_icmp_ne C.1.1 C.1.2.1 hdg ht (fun h => kt h H locs ls hP hS hl) (fun h => kf h H locs ls hP hS hl)
theorem a_icmp_lt (C : Cx G p s m args c cc Ts own nL) {x y : Int32} {off : Int} {tgt : Nat} (hdg : decode cc pc = .ok (.if_icmp .lt off, 3)) (ht : (pc : Int) + off = (tgt : Int)) (kt : x < y → Ab G p l e R s m args below meth c nL cells slots Q tgt lst rest d) (kf : ¬ x < y → Ab G p l e R s m args below meth c nL cells slots Q (pc + 3) lst rest d) : Ab G p l e R s m args below meth c nL cells slots Q pc lst (.int y :: .int x :: rest) d := fun H locs ls hP hS hl => lv_icmp_lt C.1.1 C.1.2.1 hdg ht (fun h => kt h H locs ls hP hS hl) (fun h => kf h H locs ls hP hS hl)
theorem a_icmp_ge (C : Cx G p s m args c cc Ts own nL) {x y : Int32} {off : Int} {tgt : Nat} (hdg : decode cc pc = .ok (.if_icmp .ge off, 3)) (ht : (pc : Int) + off = (tgt : Int)) (kt : y ≤ x → Ab G p l e R s m args below meth c nL cells slots Q tgt lst rest d) (kf : ¬ y ≤ x → Ab G p l e R s m args below meth c nL cells slots Q (pc + 3) lst rest d) : Ab G p l e R s m args below meth c nL cells slots Q pc lst (.int y :: .int x :: rest) d := fun H locs ls hP hS hl => lv_icmp_ge C.1.1 C.1.2.1 hdg ht (fun h => kt h H locs ls hP hS hl) (fun h => kf h H locs ls hP hS hl)
theorem a_icmp_gt (C : Cx G p s m args c cc Ts own nL) {x y : Int32} {off : Int} {tgt : Nat} (hdg : decode cc pc = .ok (.if_icmp .gt off, 3)) (ht : (pc : Int) + off = (tgt : Int)) (kt : y < x → Ab G p l e R s m args below meth c nL cells slots Q tgt lst rest d) (kf : ¬ y < x → Ab G p l e R s m args below meth c nL cells slots Q (pc + 3) lst rest d) : Ab G p l e R s m args below meth c nL cells slots Q pc lst (.int y :: .int x :: rest) d := fun H locs ls hP hS hl => lv_icmp_gt C.1.1 C.1.2.1 hdg ht (fun h => kt h H locs ls hP hS hl) (fun h => kf h H locs ls hP hS hl)
theorem a_icmp_le (C : Cx G p s m args c cc Ts own nL) {x y : Int32} {off : Int} {tgt : Nat} (hdg : decode cc pc = .ok (.if_icmp .le off, 3)) (ht : (pc : Int) + off = (tgt : Int)) (kt : x ≤ y → Ab G p l e R s m args below meth c nL cells slots Q tgt lst rest d) (kf : ¬ x ≤ y → Ab G p l e R s m args below meth c nL cells slots Q (pc + 3) lst rest d) : Ab G p l e R s m args below meth c nL cells slots Q pc lst (.int y :: .int x :: rest) d := fun H locs ls hP hS hl => lv_icmp_le C.1.1 C.1.2.1 hdg ht (fun h => kt h H locs ls hP hS hl) (fun h => kf h H locs ls hP hS hl)
theorem a_acmp_eq (C : Cx G p s m args c cc Ts own nL) {rx ry : Nat} {off : Int} {tgt : Nat} (hdg : decode cc pc = .ok (.if_acmp .eq off, 3)) (ht : (pc : Int) + off = (tgt : Int)) (kt : rx = ry → Ab G p l e R s m args below meth c nL cells slots Q tgt lst rest d) (kf : ¬ rx = ry → Ab G p l e R s m args below meth c nL cells slots Q (pc + 3) lst rest d) : Ab G p l e R s m args below meth c nL cells slots Q pc lst (.ref ry :: .ref rx :: rest) d := fun H locs ls hP hS hl => lv_acmp_eq (rx := some rx) (ry := some ry) C.1.1 C.1.2.1 hdg ht (fun h => kt (by simpa using h) H locs ls hP hS hl) (fun h => kf (by simpa using h) H locs ls hP hS hl)
theorem a_acmp_ne (C : Cx G p s m args c cc Ts own nL) {rx ry : Nat} {off : Int} {tgt : Nat} (hdg : decode cc pc = .ok (.if_acmp .ne off, 3)) (ht : (pc : Int) + off = (tgt : Int)) (kt : ¬ rx = ry → Ab G p l e R s m args below meth c nL cells slots Q tgt lst rest d) (kf : rx = ry → Ab G p l e R s m args below meth c nL cells slots Q (pc + 3) lst rest d) : Ab G p l e R s m args below meth c nL cells slots Q pc lst (.ref ry :: .ref rx :: rest) d := fun H locs ls hP hS hl => lv_acmp_ne (rx := some rx) (ry := some ry) C.1.1 C.1.2.1 hdg ht (fun h => kt (by simpa using h) H locs ls hP hS hl) (fun h => kf (by simpa using h) H locs ls hP hS hl)
theorem a_goto (C : Cx G p s m args c cc Ts own nL) {off : Int} {tgt : Nat} (hdg : decode cc pc = .ok (.goto off, 3)) (ht : (pc : Int) + off = (tgt : Int)) (k : Ab G p l e R s m args below meth c nL cells slots Q tgt lst rest d) : Ab G p l e R s m args below meth c nL cells slots Q pc lst rest d := fun H locs ls hP hS hl => lv_goto C.1.1 C.1.2.1 hdg ht (k H locs ls hP hS hl)
theorem a_tableIn (C : Cx G p s m args c cc Ts own nL) {dflt lo hi : Int} {offs : Array Int} {len : Nat} {x : Int32} {off : Int} {tgt : Nat} (hdg : decode cc pc = .ok (.tableswitch dflt lo hi offs, len)) (h1 : ¬ x.toInt < lo) (h2 : ¬ hi < x.toInt) (ho : offs[(x.toInt - lo).toNat]? = some off) (ht : (pc : Int) + off = (tgt : Int)) (k : Ab G p l e R s m args below meth c nL cells slots Q tgt lst rest d) : Ab G p l e R s m args below meth c nL cells slots Q pc lst (.int x :: rest) d := fun H locs ls hP hS hl => lv_tableIn C.1.1 C.1.2.1 hdg h1 h2 ho ht (k H locs ls hP hS hl)
theorem a_tableOut (C : Cx G p s m args c cc Ts own nL) {dflt lo hi : Int} {offs : Array Int} {len : Nat} {x : Int32} {tgt : Nat} (hdg : decode cc pc = .ok (.tableswitch dflt lo hi offs, len)) (h : x.toInt < lo ∨ hi < x.toInt) (ht : (pc : Int) + dflt = (tgt : Int)) (k : Ab G p l e R s m args below meth c nL cells slots Q tgt lst rest d) : Ab G p l e R s m args below meth c nL cells slots Q pc lst (.int x :: rest) d := fun H locs ls hP hS hl => lv_tableOut C.1.1 C.1.2.1 hdg h ht (k H locs ls hP hS hl)
/-- other words for the same point -/
theorem a_to {st st2 : List Value} {d2 : xd} (hl : lst2 = lst) (hs : st2 = st) (hd : d2 = d) (k : Ab G p l e R s m args below meth c nL cells slots Q pc lst2 st2 d2) : Ab G p l e R s m args below meth c nL cells slots Q pc lst st d := by subst hl; subst hs; subst hd; exact k
theorem a_sub {st : List Value} (ks : List Nat) (h : lv_pick lst ks = lst2) (k : Ab G p l e R s m args below meth c nL cells slots Q pc lst2 st d) : Ab G p l e R s m args below meth c nL cells slots Q pc lst st d := fun H locs ls hP hS hl => k H locs ls hP hS (lv_sub hl ks h)
theorem a_widen {st : List Value} {k n : Nat} (h1 : cells ≤ k) (h2 : slots ≤ n) (kk : Ab G p l e R s m args below meth c nL k n Q pc lst st d) : Ab G p l e R s m args below meth c nL cells slots Q pc lst st d := fun H locs ls hP hS hl => W.widen h1 h2 (kk H locs ls hP hS hl)
/-- fields and rows -/
theorem a_getI (C : Cx G p s m args c cc Ts own nL) {k ci j N index : Nat} {fl : List (Option Nat)} {Cn : String} {T : u_T} (hin : ∀ w ∈ u_ws Cn T N, w ∈ Ts) (hk : x_sh[k]? = some (.inl (ci, fl))) (hc : vwCl[ci]? = some (Cn, T, N)) (hj : fl[j]? = some none) (hjN : j < N) (hlk : Cond.fieldLink own index (T j).1 (T j).2.1 (T j).2.2.1 ∈ Ts) (hdg : decode cc pc = .ok (.getfield index, 3)) (kk : Ab G p l e R s m args below meth c nL cells slots Q (pc + 3) lst (.int (d k j) :: rest) d) : Ab G p l e R s m args below meth c nL cells slots Q pc lst (.ref (x_b G + k) :: rest) d :=
  fun H locs ls hP hS hl => va_get (D := x_D G) (ci := ci) (v := .int (d k j)) (C := Cn) (T := T) (N := N) C.1.1 C.1.2.1 C.1.2.2.2.2 hin C.1.2.2.2.1 C.2.1 hP k (x_get G d hk) hc j hjN (C.1.2.2.2.2 _ hlk) (fun _ h9 => h9) (by rw [x_fl_get, hj, Nat.zero_add]; rfl) hdg (kk H locs ls hP hS hl)
theorem a_getR (C : Cx G p s m args c cc Ts own nL) {k ci j N index o : Nat} {fl : List (Option Nat)} {Cn : String} {T : u_T} (hin : ∀ w ∈ u_ws Cn T N, w ∈ Ts) (hk : x_sh[k]? = some (.inl (ci, fl))) (hc : vwCl[ci]? = some (Cn, T, N)) (hj : fl[j]? = some (some o)) (hjN : j < N) (hlk : Cond.fieldLink own index (T j).1 (T j).2.1 (T j).2.2.1 ∈ Ts) (hdg : decode cc pc = .ok (.getfield index, 3)) (kk : Ab G p l e R s m args below meth c nL cells slots Q (pc + 3) lst (.ref (x_b G + o) :: rest) d) : Ab G p l e R s m args below meth c nL cells slots Q pc lst (.ref (x_b G + k) :: rest) d :=
  fun H locs ls hP hS hl => va_get (D := x_D G) (ci := ci) (v := .ref (x_b G + o)) (C := Cn) (T := T) (N := N) C.1.1 C.1.2.1 C.1.2.2.2.2 hin C.1.2.2.2.1 C.2.1 hP k (x_get G d hk) hc j hjN (C.1.2.2.2.2 _ hlk) (fun _ h9 => h9) (by rw [x_fl_get, hj]; rfl) hdg (kk H locs ls hP hS hl)
theorem a_putI (C : Cx G p s m args c cc Ts own nL) {k ci j N index : Nat} {fl : List (Option Nat)} {Cn : String} {T : u_T} {ty0 : Nat → FieldType} {ty : FieldType} {v : Int32} (hin : ∀ w ∈ u_ws Cn T N, w ∈ Ts) (hty : ∀ k, k < N → parseFieldDescriptor (T k).2.2.1 = some (ty0 k)) (hnm : ∀ a, a < N → ∀ b, b < N → a ≠ b → (T a).2.1 ≠ (T b).2.1) (hk : x_sh[k]? = some (.inl (ci, fl))) (hc : vwCl[ci]? = some (Cn, T, N)) (hj : fl[j]? = some none) (hjN : j < N) (hlk : Cond.fieldLink own index (T j).1 (T j).2.1 (T j).2.2.1 ∈ Ts) (hfin : (T j).2.2.2 = false) (hd : parseFieldDescriptor (T j).2.2.1 = some ty) (hn : narrow ty (.int v) = .int v) (hfit : fits ty (.int v) = true) (hdg : decode cc pc = .ok (.putfield index, 3)) (kk : Ab G p l e R s m args below meth c nL cells slots Q (pc + 3) lst rest (x_p d k j v)) : Ab G p l e R s m args below meth c nL cells slots Q pc lst (.int v :: .ref (x_b G + k) :: rest) d :=
  fun H locs ls hP hS hl => va_put (D := x_D G) (ci := ci) (v := .int v) (C := Cn) (T := T) (N := N) C.1.1 C.1.2.1 C.1.2.2.2.2 hin ty0 hty hnm C.1.2.2.2.1 C.2.1 hP (x_Dok C.2.2.1.2 d) hS k (x_get G d hk) hc j hjN (C.1.2.2.2.2 _ hlk) (fun _ h9 => h9) hfin hd hn hfit (by rw [x_fl_len]; exact (List.getElem?_eq_some_iff.mp hj).1) hdg (fun H1 locs1 hP1 _ hS1 => kk H1 locs1 ls (by
    rw [x_fl_set _ _ _ _ _ _ hj, Nat.zero_add] at hP1
    have e := x_set G d (k := k) (sh := .inl (ci, fl)) (upd (d k) j v) hk
    rw [show x_p d k j v = x_r d k (upd (d k) j v) from rfl, ← e]
    exact hP1) hS1 hl)
theorem a_iald (C : Cx G p s m args c cc Ts own nL) {k n : Nat} {i : Int32} (hk : x_sh[k]? = some (.inr (0, n))) (hin : vp_in i n) (hdg : decode cc pc = .ok (.iaload, 1)) (kk : Ab G p l e R s m args below meth c nL cells slots Q (pc + 1) lst (.int (d k i.toNatClampNeg) :: rest) d) : Ab G p l e R s m args below meth c nL cells slots Q pc lst (.int i :: .ref (x_b G + k) :: rest) d :=
  fun H locs ls hP hS hl => va_iald (D := x_D G) (f := d k) C.1.1 C.1.2.1 C.2.1 hP k 0 (x_get G d hk) rfl hin hdg (kk H locs ls hP hS hl)
theorem a_cald (C : Cx G p s m args c cc Ts own nL) {k n : Nat} {i : Int32} (hk : x_sh[k]? = some (.inr (1, n))) (hin : vp_in i n) (hdg : decode cc pc = .ok (.caload, 1)) (kk : Ab G p l e R s m args below meth c nL cells slots Q (pc + 1) lst (.int (d k i.toNatClampNeg) :: rest) d) : Ab G p l e R s m args below meth c nL cells slots Q pc lst (.int i :: .ref (x_b G + k) :: rest) d :=
  fun H locs ls hP hS hl => va_cald (D := x_D G) (f := d k) C.1.1 C.1.2.1 C.2.1 hP k 1 (x_get G d hk) rfl hin hdg (kk H locs ls hP hS hl)
theorem a_zald (C : Cx G p s m args c cc Ts own nL) {k n : Nat} {i : Int32} (hk : x_sh[k]? = some (.inr (2, n))) (hin : vp_in i n) (hdg : decode cc pc = .ok (.baload, 1)) (kk : Ab G p l e R s m args below meth c nL cells slots Q (pc + 1) lst (.int (x_bz (d k i.toNatClampNeg)) :: rest) d) : Ab G p l e R s m args below meth c nL cells slots Q pc lst (.int i :: .ref (x_b G + k) :: rest) d :=
  fun H locs ls hP hS hl => va_zald (D := x_D G) (f := fun j => x_bz (d k j)) C.1.1 C.1.2.1 C.2.1 hP k 2 (x_get G d hk) rfl hin hdg (kk H locs ls hP hS hl)
theorem a_bald (C : Cx G p s m args c cc Ts own nL) {k n : Nat} {i : Int32} (hk : x_sh[k]? = some (.inr (3, n))) (hin : vp_in i n) (hdg : decode cc pc = .ok (.baload, 1)) (kk : Ab G p l e R s m args below meth c nL cells slots Q (pc + 1) lst (.int (d k i.toNatClampNeg) :: rest) d) : Ab G p l e R s m args below meth c nL cells slots Q pc lst (.int i :: .ref (x_b G + k) :: rest) d :=
  fun H locs ls hP hS hl => va_bald (D := x_D G) (f := d k) C.1.1 C.1.2.1 C.2.1 hP k 3 (x_get G d hk) rfl hin hdg (kk H locs ls hP hS hl)
theorem a_iast (C : Cx G p s m args c cc Ts own nL) {k n : Nat} {i x : Int32} (hk : x_sh[k]? = some (.inr (0, n))) (hin : vp_in i n) (hdg : decode cc pc = .ok (.iastore, 1)) (kk : Ab G p l e R s m args below meth c nL cells slots Q (pc + 1) lst rest (x_p d k i.toNatClampNeg x)) : Ab G p l e R s m args below meth c nL cells slots Q pc lst (.int x :: .int i :: .ref (x_b G + k) :: rest) d :=
  fun H locs ls hP hS hl => va_iast (D := x_D G) (f := d k) C.1.1 C.1.2.1 C.2.1 hP (x_Dok C.2.2.1.2 d) hS k 0 (x_get G d hk) rfl hin hdg (fun H1 locs1 hP1 _ hS1 => kk H1 locs1 ls (by
    have e := x_set G d (k := k) (sh := .inr (0, n)) (upd (d k) i.toNatClampNeg x) hk
    rw [show x_p d k i.toNatClampNeg x = x_r d k (upd (d k) i.toNatClampNeg x) from rfl, ← e]
    exact hP1) hS1 hl)
theorem a_cast (C : Cx G p s m args c cc Ts own nL) {k n : Nat} {i x v : Int32} (hk : x_sh[k]? = some (.inr (1, n))) (hin : vp_in i n) (hv : vp_nar .char x = v) (hdg : decode cc pc = .ok (.castore, 1)) (kk : Ab G p l e R s m args below meth c nL cells slots Q (pc + 1) lst rest (x_p d k i.toNatClampNeg v)) : Ab G p l e R s m args below meth c nL cells slots Q pc lst (.int x :: .int i :: .ref (x_b G + k) :: rest) d :=
  fun H locs ls hP hS hl => va_cast (D := x_D G) (f := d k) C.1.1 C.1.2.1 C.2.1 hP (x_Dok C.2.2.1.2 d) hS k 1 (x_get G d hk) rfl hin hdg (fun H1 locs1 hP1 _ hS1 => kk H1 locs1 ls (by
    have e := x_set G d (k := k) (sh := .inr (1, n)) (upd (d k) i.toNatClampNeg v) hk
    rw [show x_p d k i.toNatClampNeg v = x_r d k (upd (d k) i.toNatClampNeg v) from rfl, ← e]
    rw [hv] at hP1
    exact hP1) hS1 hl)
theorem a_bast (C : Cx G p s m args c cc Ts own nL) {k n : Nat} {i x v : Int32} (hk : x_sh[k]? = some (.inr (3, n))) (hin : vp_in i n) (hv : vp_nar .byte x = v) (hdg : decode cc pc = .ok (.bastore, 1)) (kk : Ab G p l e R s m args below meth c nL cells slots Q (pc + 1) lst rest (x_p d k i.toNatClampNeg v)) : Ab G p l e R s m args below meth c nL cells slots Q pc lst (.int x :: .int i :: .ref (x_b G + k) :: rest) d :=
  fun H locs ls hP hS hl => va_bast (D := x_D G) (f := d k) C.1.1 C.1.2.1 C.2.1 hP (x_Dok C.2.2.1.2 d) hS k 3 (x_get G d hk) rfl hin hdg (fun H1 locs1 hP1 _ hS1 => kk H1 locs1 ls (by
    have e := x_set G d (k := k) (sh := .inr (3, n)) (upd (d k) i.toNatClampNeg v) hk
    rw [show x_p d k i.toNatClampNeg v = x_r d k (upd (d k) i.toNatClampNeg v) from rfl, ← e]
    rw [hv] at hP1
    exact hP1) hS1 hl)
theorem x_bz_upd (f : Nat → Int32) (i : Nat) (x : Int32) (h : x = 0 ∨ x = 1) : upd (fun j => x_bz (f j)) i (vp_nar .boolean x) = fun j => x_bz (upd f i x j) := by
  funext j
  by_cases hj : j = i
  · subst hj
    rcases h with rfl | rfl
    · show _ = x_bz (upd f j 0 j)
      simp only [upd, if_pos]
      decide
    · show _ = x_bz (upd f j 1 j)
      simp only [upd, if_pos]
      decide
  · simp [upd, hj]
theorem a_zast (C : Cx G p s m args c cc Ts own nL) {k n : Nat} {i x : Int32} (hk : x_sh[k]? = some (.inr (2, n))) (hin : vp_in i n) (hx : x = 0 ∨ x = 1) (hdg : decode cc pc = .ok (.bastore, 1)) (kk : Ab G p l e R s m args below meth c nL cells slots Q (pc + 1) lst rest (x_p d k i.toNatClampNeg x)) : Ab G p l e R s m args below meth c nL cells slots Q pc lst (.int x :: .int i :: .ref (x_b G + k) :: rest) d :=
  fun H locs ls hP hS hl => va_zast (D := x_D G) (f := fun j => x_bz (d k j)) C.1.1 C.1.2.1 C.2.1 hP (x_Dok C.2.2.1.2 d) hS k 2 (x_get G d hk) rfl hin hdg (fun H1 locs1 hP1 _ hS1 => kk H1 locs1 ls (by
    have e := x_set G d (k := k) (sh := .inr (2, n)) (upd (d k) i.toNatClampNeg x) hk
    rw [show x_p d k i.toNatClampNeg x = x_r d k (upd (d k) i.toNatClampNeg x) from rfl, ← e]
    rw [x_bz_upd _ _ _ hx] at hP1
    exact hP1) hS1 hl)
theorem a_aaldS (C : Cx G p s m args c cc Ts own nL) {k n : Nat} {i : Int32} (hk : x_sh[k]? = some (.inr (4, n))) (hin : vp_in i n) (hdg : decode cc pc = .ok (.aaload, 1)) (kk : Ab G p l e R s m args below meth c nL cells slots Q (pc + 1) lst (.ref (x_b G + (45 + 14 * i.toNatClampNeg)) :: rest) d) : Ab G p l e R s m args below meth c nL cells slots Q pc lst (.int i :: .ref (x_b G + k) :: rest) d :=
  fun H locs ls hP hS hl => va_aldq (D := x_D G) (C := "LampCooperative$State") (f := fun j => some (x_b G + (45 + 14 * j))) C.1.1 C.1.2.1 C.2.1 hP k 4 (x_get G d hk) rfl hin hdg (kk H locs ls hP hS hl)
theorem a_aaldV (C : Cx G p s m args c cc Ts own nL) {k n : Nat} {i : Int32} (hk : x_sh[k]? = some (.inr (5, n))) (hin : vp_in i n) (hdg : decode cc pc = .ok (.aaload, 1)) (kk : Ab G p l e R s m args below meth c nL cells slots Q (pc + 1) lst (va_rf (x_vr G (d k i.toNatClampNeg)) :: rest) d) : Ab G p l e R s m args below meth c nL cells slots Q pc lst (.int i :: .ref (x_b G + k) :: rest) d :=
  fun H locs ls hP hS hl => va_aldq (D := x_D G) (C := "LampCooperative$Verb") (f := fun j => x_vr G (d k j)) C.1.1 C.1.2.1 C.2.1 hP k 5 (x_get G d hk) rfl hin hdg (kk H locs ls hP hS hl)
theorem a_alen (C : Cx G p s m args c cc Ts own nL) {k t n : Nat} {v : Int32} (hk : x_sh[k]? = some (.inr (t, n))) (hv : Int32.ofNat n = v) (hdg : decode cc pc = .ok (.arraylength, 1)) (kk : Ab G p l e R s m args below meth c nL cells slots Q (pc + 1) lst (.int v :: rest) d) : Ab G p l e R s m args below meth c nL cells slots Q pc lst (.ref (x_b G + k) :: rest) d := by
  intro H locs ls hP hS hl
  have h := x_get G d hk
  match t with
  | 0 => exact va_alen (D := x_D G) C.1.1 C.1.2.1 C.2.1 hP k 0 h rfl hv hdg (kk H locs ls hP hS hl)
  | 1 => exact va_alen (D := x_D G) C.1.1 C.1.2.1 C.2.1 hP k 1 h rfl hv hdg (kk H locs ls hP hS hl)
  | 2 => exact va_alen (D := x_D G) C.1.1 C.1.2.1 C.2.1 hP k 2 h rfl hv hdg (kk H locs ls hP hS hl)
  | 3 => exact va_alen (D := x_D G) C.1.1 C.1.2.1 C.2.1 hP k 3 h rfl hv hdg (kk H locs ls hP hS hl)
  | 4 => exact va_alen (D := x_D G) C.1.1 C.1.2.1 C.2.1 hP k 4 h rfl hv hdg (kk H locs ls hP hS hl)
  | t + 5 => exact va_alen (D := x_D G) C.1.1 C.1.2.1 C.2.1 hP k 5 h rfl hv hdg (kk H locs ls hP hS hl)
theorem a_getsR (C : Cx G p s m args c cc Ts own nL) {i index : Nat} (hi : i < 4) (hlk : Cond.fieldLink own index "LampCooperative$Refusal" (x_rnm.getD i "") "LLampCooperative$Refusal;" ∈ Ts) (hdg : decode cc pc = .ok (.getstatic index, 3)) (kk : Ab G p l e R s m args below meth c nL cells slots Q (pc + 3) lst (.ref (x_e G 1 i) :: rest) d) : Ab G p l e R s m args below meth c nL cells slots Q pc lst rest d :=
  fun H locs ls hP hS hl => va_gets C.1.1 C.1.2.1 (C.2.2.2.1.1 i hi).1 hS C.1.2.2.2.1 (C.1.2.2.2.2 _ hlk) (fun _ h9 => h9) hdg (kk H locs ls hP hS hl)
theorem x_e1_ne (C : Cx G p s m args c cc Ts own nL) {i j : Nat} (hi : i < 4) (hj : j < 4) (h : i ≠ j) : x_e G 1 i ≠ x_e G 1 j := fun e => h (C.2.2.2.1.2 i j hi hj e)
/-- Math.min, Math.max -/
theorem a_mmin (C : Cx G p s m args c cc Ts own nL) {index : Nat} {x y : Int32} (h1 : Cond.methodLink own index Lib.Math.min.name ∈ Ts) (h2 : Cond.static Lib.Math.min.name ∈ Ts) (h3 : Cond.initialized "java/lang/Math" ∈ Ts) (h4 : Cond.code Lib.Math.min.name Lib.Math.min.code 2 (some .int) ∈ Ts) (hf : 1 ≤ R.frames) (hlo : (rest.map fun v => v.category).sum + 13 ≤ R.locals) (hc : cells ≤ R.cells) (hs : slots ≤ R.slots) (hdg : decode cc pc = .ok (.invokestatic index, 3)) (kk : Ab G p l e R s m args below meth c nL cells slots Q (pc + 3) lst (.int (if y < x then y else x) :: rest) d) : Ab G p l e R s m args below meth c nL cells slots Q pc lst (.int y :: .int x :: rest) d :=
  fun H locs ls hP hS hl => va_mmin C.1.1 C.1.2.1 (by rw [C.1.2.2.1]; exact hl.1.symm) C.1.2.2.2.1 (C.1.2.2.2.2 _ h1) (C.1.2.2.2.2 _ h2) (C.1.2.2.2.2 _ h3) (C.1.2.2.2.2 _ h4) hf hlo hc hs hdg (kk H locs ls hP hS hl)
theorem a_mmax (C : Cx G p s m args c cc Ts own nL) {index : Nat} {x y : Int32} (h1 : Cond.methodLink own index Lib.Math.max.name ∈ Ts) (h2 : Cond.static Lib.Math.max.name ∈ Ts) (h3 : Cond.initialized "java/lang/Math" ∈ Ts) (h4 : Cond.code Lib.Math.max.name Lib.Math.max.code 2 (some .int) ∈ Ts) (hf : 1 ≤ R.frames) (hlo : (rest.map fun v => v.category).sum + 13 ≤ R.locals) (hc : cells ≤ R.cells) (hs : slots ≤ R.slots) (hdg : decode cc pc = .ok (.invokestatic index, 3)) (kk : Ab G p l e R s m args below meth c nL cells slots Q (pc + 3) lst (.int (if x < y then y else x) :: rest) d) : Ab G p l e R s m args below meth c nL cells slots Q pc lst (.int y :: .int x :: rest) d :=
  fun H locs ls hP hS hl => va_mmax C.1.1 C.1.2.1 (by rw [C.1.2.2.1]; exact hl.1.symm) C.1.2.2.2.1 (C.1.2.2.2.2 _ h1) (C.1.2.2.2.2 _ h2) (C.1.2.2.2.2 _ h3) (C.1.2.2.2.2 _ h4) hf hlo hc hs hdg (kk H locs ls hP hS hl)
/-- System.arraycopy of a row of ints -/
theorem a_copyi (C : Cx G p s m args c cc Ts own nL) {index k0 k1 n0 n1 : Nat} {sp dp n : Int32} (h1 : Cond.methodLink own index arraycopyName ∈ Ts) (h2 : Cond.native arraycopyName ∈ Ts) (h3 : Cond.static arraycopyName ∈ Ts) (h4 : Cond.initialized "java/lang/System" ∈ Ts) (hk0 : x_sh[k0]? = some (.inr (0, n0))) (hk1 : x_sh[k1]? = some (.inr (0, n1))) (g1 : ¬ sp < 0) (g2 : ¬ dp < 0) (g3 : ¬ n < 0) (g4 : sp.toNatClampNeg + n.toNatClampNeg ≤ n0) (g5 : dp.toNatClampNeg + n.toNatClampNeg ≤ n1) (hf : 1 ≤ R.frames) (hlo : (rest.map fun v => v.category).sum + (nativeFrameWords "java/lang/System" "arraycopy" 5 + 11) ≤ R.locals) (hdg : decode cc pc = .ok (.invokestatic index, 3)) (kk : Ab G p l e R s m args below meth c nL cells slots Q (pc + 3) lst rest (x_r d k1 (va_cpy (d k0) (d k1) sp.toNatClampNeg dp.toNatClampNeg n.toNatClampNeg))) : Ab G p l e R s m args below meth c nL cells slots Q pc lst (.int n :: .int dp :: .ref (x_b G + k1) :: .int sp :: .ref (x_b G + k0) :: rest) d :=
  fun H locs ls hP hS hl => va_copyi (D := x_D G) (ty := .int) (f := d k0) (g := d k1) C.1.1 C.1.2.1 (by rw [C.1.2.2.1]; exact hl.1.symm) C.1.2.2.2.1 (C.1.2.2.2.2 _ h1) (C.1.2.2.2.2 _ h2) (C.1.2.2.2.2 _ h3) (C.1.2.2.2.2 _ h4) C.2.1 hP (x_Dok C.2.2.1.2 d) hS k0 k1 0 0 (x_get G d hk0) (x_get G d hk1) rfl rfl rfl g1 g2 g3 g4 g5 (fun _ _ => rfl) hf hlo hdg (fun H1 locs1 hP1 _ hS1 => kk H1 locs1 ls (by
    rw [← x_set G d (k := k1) (sh := .inr (0, n1)) _ hk1]
    exact hP1) hS1 hl)
theorem x_bz_fit (x : Int32) : fits .boolean (.int (x_bz x)) = true := by
  unfold x_bz
  split <;> rfl
theorem x_bz_cpy (f g : Nat → Int32) (a b n : Nat) : va_cpy (fun j => x_bz (f j)) (fun j => x_bz (g j)) a b n = fun j => x_bz (va_cpy f g a b n j) := by
  funext j
  simp only [va_cpy]
  split <;> rfl
theorem a_copyz (C : Cx G p s m args c cc Ts own nL) {index k0 k1 n0 n1 : Nat} {sp dp n : Int32} (h1 : Cond.methodLink own index arraycopyName ∈ Ts) (h2 : Cond.native arraycopyName ∈ Ts) (h3 : Cond.static arraycopyName ∈ Ts) (h4 : Cond.initialized "java/lang/System" ∈ Ts) (hk0 : x_sh[k0]? = some (.inr (2, n0))) (hk1 : x_sh[k1]? = some (.inr (2, n1))) (g1 : ¬ sp < 0) (g2 : ¬ dp < 0) (g3 : ¬ n < 0) (g4 : sp.toNatClampNeg + n.toNatClampNeg ≤ n0) (g5 : dp.toNatClampNeg + n.toNatClampNeg ≤ n1) (hf : 1 ≤ R.frames) (hlo : (rest.map fun v => v.category).sum + (nativeFrameWords "java/lang/System" "arraycopy" 5 + 11) ≤ R.locals) (hdg : decode cc pc = .ok (.invokestatic index, 3)) (kk : Ab G p l e R s m args below meth c nL cells slots Q (pc + 3) lst rest (x_r d k1 (va_cpy (d k0) (d k1) sp.toNatClampNeg dp.toNatClampNeg n.toNatClampNeg))) : Ab G p l e R s m args below meth c nL cells slots Q pc lst (.int n :: .int dp :: .ref (x_b G + k1) :: .int sp :: .ref (x_b G + k0) :: rest) d :=
  fun H locs ls hP hS hl => va_copyi (D := x_D G) (ty := .boolean) (f := fun j => x_bz (d k0 j)) (g := fun j => x_bz (d k1 j)) C.1.1 C.1.2.1 (by rw [C.1.2.2.1]; exact hl.1.symm) C.1.2.2.2.1 (C.1.2.2.2.2 _ h1) (C.1.2.2.2.2 _ h2) (C.1.2.2.2.2 _ h3) (C.1.2.2.2.2 _ h4) C.2.1 hP (x_Dok C.2.2.1.2 d) hS k0 k1 2 2 (x_get G d hk0) (x_get G d hk1) rfl rfl rfl g1 g2 g3 g4 g5 (fun _ _ => x_bz_fit _) hf hlo hdg (fun H1 locs1 hP1 _ hS1 => kk H1 locs1 ls (by
    rw [← x_set G d (k := k1) (sh := .inr (2, n1)) _ hk1]
    rw [x_bz_cpy] at hP1
    exact hP1) hS1 hl)

theorem a_top {x y : Int32} (h : x = y) (k : Ab G p l e R s m args below meth c nL cells slots Q pc lst (.int y :: rest) d) : Ab G p l e R s m args below meth c nL cells slots Q pc lst (.int x :: rest) d := by subst h; exact k
theorem a_topR {x y : Nat} (h : x = y) (k : Ab G p l e R s m args below meth c nL cells slots Q pc lst (.ref y :: rest) d) : Ab G p l e R s m args below meth c nL cells slots Q pc lst (.ref x :: rest) d := by subst h; exact k
theorem a_toD {st : List Value} {d2 : xd} (h : d = d2) (k : Ab G p l e R s m args below meth c nL cells slots Q pc lst st d2) : Ab G p l e R s m args below meth c nL cells slots Q pc lst st d := by subst h; exact k

theorem a_ialdN (C : Cx G p s m args c cc Ts own nL) {k n i : Nat} {x : Int32} (hk : x_sh[k]? = some (.inr (0, n))) (hx : x = nI i) (hin : i < n) (hn : n < 2147483648) (hdg : decode cc pc = .ok (.iaload, 1)) (kk : Ab G p l e R s m args below meth c nL cells slots Q (pc + 1) lst (.int (d k i) :: rest) d) : Ab G p l e R s m args below meth c nL cells slots Q pc lst (.int x :: .ref (x_b G + k) :: rest) d := by
  subst hx
  refine a_iald C hk (x_vp hin hn) hdg ?_
  rw [x_cl hin hn]
  exact kk
theorem a_caldN (C : Cx G p s m args c cc Ts own nL) {k n i : Nat} {x : Int32} (hk : x_sh[k]? = some (.inr (1, n))) (hx : x = nI i) (hin : i < n) (hn : n < 2147483648) (hdg : decode cc pc = .ok (.caload, 1)) (kk : Ab G p l e R s m args below meth c nL cells slots Q (pc + 1) lst (.int (d k i) :: rest) d) : Ab G p l e R s m args below meth c nL cells slots Q pc lst (.int x :: .ref (x_b G + k) :: rest) d := by
  subst hx
  refine a_cald C hk (x_vp hin hn) hdg ?_
  rw [x_cl hin hn]
  exact kk
theorem a_zaldN (C : Cx G p s m args c cc Ts own nL) {k n i : Nat} {x : Int32} (hk : x_sh[k]? = some (.inr (2, n))) (hx : x = nI i) (hin : i < n) (hn : n < 2147483648) (hdg : decode cc pc = .ok (.baload, 1)) (kk : Ab G p l e R s m args below meth c nL cells slots Q (pc + 1) lst (.int (x_bz (d k i)) :: rest) d) : Ab G p l e R s m args below meth c nL cells slots Q pc lst (.int x :: .ref (x_b G + k) :: rest) d := by
  subst hx
  refine a_zald C hk (x_vp hin hn) hdg ?_
  rw [x_cl hin hn]
  exact kk
theorem a_baldN (C : Cx G p s m args c cc Ts own nL) {k n i : Nat} {x : Int32} (hk : x_sh[k]? = some (.inr (3, n))) (hx : x = nI i) (hin : i < n) (hn : n < 2147483648) (hdg : decode cc pc = .ok (.baload, 1)) (kk : Ab G p l e R s m args below meth c nL cells slots Q (pc + 1) lst (.int (d k i) :: rest) d) : Ab G p l e R s m args below meth c nL cells slots Q pc lst (.int x :: .ref (x_b G + k) :: rest) d := by
  subst hx
  refine a_bald C hk (x_vp hin hn) hdg ?_
  rw [x_cl hin hn]
  exact kk
theorem a_iastN (C : Cx G p s m args c cc Ts own nL) {k n i : Nat} {x y : Int32} (hk : x_sh[k]? = some (.inr (0, n))) (hx : x = nI i) (hin : i < n) (hn : n < 2147483648) (hdg : decode cc pc = .ok (.iastore, 1)) (kk : Ab G p l e R s m args below meth c nL cells slots Q (pc + 1) lst rest (x_p d k i y)) : Ab G p l e R s m args below meth c nL cells slots Q pc lst (.int y :: .int x :: .ref (x_b G + k) :: rest) d := by
  subst hx
  refine a_iast C hk (x_vp hin hn) hdg ?_
  rw [x_cl hin hn]
  exact kk
theorem a_zastN (C : Cx G p s m args c cc Ts own nL) {k n i : Nat} {x y : Int32} (hk : x_sh[k]? = some (.inr (2, n))) (hx : x = nI i) (hin : i < n) (hn : n < 2147483648) (hy : y = 0 ∨ y = 1) (hdg : decode cc pc = .ok (.bastore, 1)) (kk : Ab G p l e R s m args below meth c nL cells slots Q (pc + 1) lst rest (x_p d k i y)) : Ab G p l e R s m args below meth c nL cells slots Q pc lst (.int y :: .int x :: .ref (x_b G + k) :: rest) d := by
  subst hx
  refine a_zast C hk (x_vp hin hn) hy hdg ?_
  rw [x_cl hin hn]
  exact kk
theorem a_castN (C : Cx G p s m args c cc Ts own nL) {k n i : Nat} {x y v : Int32} (hk : x_sh[k]? = some (.inr (1, n))) (hx : x = nI i) (hin : i < n) (hn : n < 2147483648) (hv : vp_nar .char y = v) (hdg : decode cc pc = .ok (.castore, 1)) (kk : Ab G p l e R s m args below meth c nL cells slots Q (pc + 1) lst rest (x_p d k i v)) : Ab G p l e R s m args below meth c nL cells slots Q pc lst (.int y :: .int x :: .ref (x_b G + k) :: rest) d := by
  subst hx
  refine a_cast C hk (x_vp hin hn) hv hdg ?_
  rw [x_cl hin hn]
  exact kk
theorem a_bastN (C : Cx G p s m args c cc Ts own nL) {k n i : Nat} {x y v : Int32} (hk : x_sh[k]? = some (.inr (3, n))) (hx : x = nI i) (hin : i < n) (hn : n < 2147483648) (hv : vp_nar .byte y = v) (hdg : decode cc pc = .ok (.bastore, 1)) (kk : Ab G p l e R s m args below meth c nL cells slots Q (pc + 1) lst rest (x_p d k i v)) : Ab G p l e R s m args below meth c nL cells slots Q pc lst (.int y :: .int x :: .ref (x_b G + k) :: rest) d := by
  subst hx
  refine a_bast C hk (x_vp hin hn) hv hdg ?_
  rw [x_cl hin hn]
  exact kk
theorem a_aaldSN (C : Cx G p s m args c cc Ts own nL) {k n i : Nat} {x : Int32} (hk : x_sh[k]? = some (.inr (4, n))) (hx : x = nI i) (hin : i < n) (hn : n < 2147483648) (hdg : decode cc pc = .ok (.aaload, 1)) (kk : Ab G p l e R s m args below meth c nL cells slots Q (pc + 1) lst (.ref (x_b G + (45 + 14 * i)) :: rest) d) : Ab G p l e R s m args below meth c nL cells slots Q pc lst (.int x :: .ref (x_b G + k) :: rest) d := by
  subst hx
  refine a_aaldS C hk (x_vp hin hn) hdg ?_
  rw [x_cl hin hn]
  exact kk

theorem a_copyiN (C : Cx G p s m args c cc Ts own nL) {index k0 k1 n0 n1 sp dp n : Nat} {x y z : Int32} {f g : Nat → Int32} (h1 : Cond.methodLink own index arraycopyName ∈ Ts) (h2 : Cond.native arraycopyName ∈ Ts) (h3 : Cond.static arraycopyName ∈ Ts) (h4 : Cond.initialized "java/lang/System" ∈ Ts) (hk0 : x_sh[k0]? = some (.inr (0, n0))) (hk1 : x_sh[k1]? = some (.inr (0, n1))) (hx : x = nI sp) (hy : y = nI dp) (hz : z = nI n) (g4 : sp + n ≤ n0) (g5 : dp + n ≤ n1) (m0 : n0 < 1000) (m1 : n1 < 1000) (hf0 : d k0 = f) (hg0 : d k1 = g) (hf : 1 ≤ R.frames) (hlo : (rest.map fun v => v.category).sum + (nativeFrameWords "java/lang/System" "arraycopy" 5 + 11) ≤ R.locals) (hdg : decode cc pc = .ok (.invokestatic index, 3)) (kk : Ab G p l e R s m args below meth c nL cells slots Q (pc + 3) lst rest (x_r d k1 (va_cpy f g sp dp n))) : Ab G p l e R s m args below meth c nL cells slots Q pc lst (.int z :: .int y :: .ref (x_b G + k1) :: .int x :: .ref (x_b G + k0) :: rest) d := by
  subst hx; subst hy; subst hz; subst hf0; subst hg0
  have e1 : (nI sp).toNatClampNeg = sp := nI_clamp (by omega)
  have e2 : (nI dp).toNatClampNeg = dp := nI_clamp (by omega)
  have e3 : (nI n).toNatClampNeg = n := nI_clamp (by omega)
  refine a_copyi C h1 h2 h3 h4 hk0 hk1 (nI_pos (by omega)) (nI_pos (by omega)) (nI_pos (by omega)) (by rw [e1, e3]; exact g4) (by rw [e2, e3]; exact g5) hf hlo hdg ?_
  rw [e1, e2, e3]
  exact kk
theorem a_copyzN (C : Cx G p s m args c cc Ts own nL) {index k0 k1 n0 n1 sp dp n : Nat} {x y z : Int32} {f g : Nat → Int32} (h1 : Cond.methodLink own index arraycopyName ∈ Ts) (h2 : Cond.native arraycopyName ∈ Ts) (h3 : Cond.static arraycopyName ∈ Ts) (h4 : Cond.initialized "java/lang/System" ∈ Ts) (hk0 : x_sh[k0]? = some (.inr (2, n0))) (hk1 : x_sh[k1]? = some (.inr (2, n1))) (hx : x = nI sp) (hy : y = nI dp) (hz : z = nI n) (g4 : sp + n ≤ n0) (g5 : dp + n ≤ n1) (m0 : n0 < 1000) (m1 : n1 < 1000) (hf0 : d k0 = f) (hg0 : d k1 = g) (hf : 1 ≤ R.frames) (hlo : (rest.map fun v => v.category).sum + (nativeFrameWords "java/lang/System" "arraycopy" 5 + 11) ≤ R.locals) (hdg : decode cc pc = .ok (.invokestatic index, 3)) (kk : Ab G p l e R s m args below meth c nL cells slots Q (pc + 3) lst rest (x_r d k1 (va_cpy f g sp dp n))) : Ab G p l e R s m args below meth c nL cells slots Q pc lst (.int z :: .int y :: .ref (x_b G + k1) :: .int x :: .ref (x_b G + k0) :: rest) d := by
  subst hx; subst hy; subst hz; subst hf0; subst hg0
  have e1 : (nI sp).toNatClampNeg = sp := nI_clamp (by omega)
  have e2 : (nI dp).toNatClampNeg = dp := nI_clamp (by omega)
  have e3 : (nI n).toNatClampNeg = n := nI_clamp (by omega)
  refine a_copyz C h1 h2 h3 h4 hk0 hk1 (nI_pos (by omega)) (nI_pos (by omega)) (nI_pos (by omega)) (by rw [e1, e3]; exact g4) (by rw [e2, e3]; exact g5) hf hlo hdg ?_
  rw [e1, e2, e3]
  exact kk

/-- calls: of a method that returns -/
theorem x_go {free : Addr → Prop} {mc ms : Nat} {ls : Array Slot} {st0 : List Value} {H : Heap} {locs : List Loc} {a : Array Value} {r : Option Value} {d2 : xd} (hr : va_Run p l e R s m args below meth c H locs cells slots mc ms (F0 m pc ls st0) rest (x_Q G r d2 a) (x_A G)) (hS : va_S (x_A G) s.heap H locs) (hl : lv_has ls nL lst)
    (kk : Ab G p l e R s m args below meth c nL (cells + mc) (slots + ms) Q (pc + 3) lst (r.toList ++ rest) d2) : W p l e R s m args below meth c H locs cells slots Q (F0 m pc ls st0) := by
  intro T hT X
  obtain ⟨v, st₀, t, T', L, h0, X', hL, e1, e2, ⟨hv, hu, hz, hk⟩, st⟩ := hr T hT X
  cases hv
  rw [h0] at hz hk
  obtain ⟨t2, a1, b1⟩ := kk T'.heap (locs ++ L) ls (by rw [e1]; exact hu)
    ⟨Nat.le_trans hS.1 (by rw [e1]; exact hz), fun q h1 h2 => by rw [e1, hk q (Nat.lt_of_lt_of_le h1 hS.1) h2]; exact hS.2.1 q h1 h2, fun q hq => by
      rcases List.mem_append.mp hq with h | h
      · exact hS.2.2 q h
      · exact hL q h⟩ hl T' rfl X'
  exact ⟨t2, st t2 a1, b1⟩
theorem x_pre {H : Heap} {locs : List Loc} {av : List Value} (hK : x_K G s) (hP : va_P (x_D G) vwCl (x_ws G d) H) (hS : va_S (x_A G) s.heap H locs) : ∀ U : State, U.heap = H → s.WarmedH U.vm → va_Pc av (x_U G d) av.toArray U := fun U hU hW => ⟨rfl, by rw [hU]; exact hP, hK.at hW hS hU⟩
theorem a_callV (C : Cx G p s m args c cc Ts own nL) {y : MethodName} {Cn : String} {bytes : ByteArray} {maxL mc ms n index lv k ci : Nat} {ret : Option FieldType} {ws : List Cond} {As : List Value} {r : Option Value} {d2 : xd} {fl : List (Option Nat)} {q : vw_C}
    (hM : x_M G l y ws lv mc ms (.ref (x_b G + k) :: As) d r d2) (cw : CallW R s args own Cn index y bytes maxL ret ws (x_rm lv mc ms) mc ms n) (hk : x_sh[k]? = some (.inl (ci, fl))) (hc : vwCl[ci]? = some q) (hq : q.1 = Cn) (hn : As.length = n) {st : List Value} (hst : st = As.reverse ++ .ref (x_b G + k) :: rest) (hro : (rest.map fun v => v.category).sum ≤ 8) (hdg : decode cc pc = .ok (.invokevirtual index, 3)) (hf : cells + mc ≤ R.cells ∧ slots + ms ≤ R.slots)
    (kk : Ab G p l e R s m args below meth c nL (cells + mc) (slots + ms) Q (pc + 3) lst (r.toList ++ rest) d2) : Ab G p l e R s m args below meth c nL cells slots Q pc lst st d := by
  intro H locs ls hP hS hl
  subst hst
  subst hq
  exact x_go (free := x_A G) (va_runV (As := As) (rest := rest) C.1 hM cw ⟨x_blind G _ d, va_recv C.2.1 hP hc (x_get G d hk), x_pre C.2 hP hS⟩ rfl hn hl.1 rfl (lv_room hro) hdg hf) hS hl kk
theorem a_callS (C : Cx G p s m args c cc Ts own nL) {y : MethodName} {bytes : ByteArray} {maxL mc ms n index lv : Nat} {ret : Option FieldType} {ws : List Cond} {As : List Value} {r : Option Value} {d2 : xd}
    (hM : x_M G l y ws lv mc ms As d r d2) (cw : CallB R s args own index y bytes maxL ret ws (x_rm lv mc ms) mc ms n ∧ (Cond.static y).before args s = true) (hn : As.length = n) {st : List Value} (hst : st = As.reverse ++ rest) (hro : (rest.map fun v => v.category).sum ≤ 8) (hdg : decode cc pc = .ok (.invokestatic index, 3)) (hf : cells + mc ≤ R.cells ∧ slots + ms ≤ R.slots)
    (kk : Ab G p l e R s m args below meth c nL (cells + mc) (slots + ms) Q (pc + 3) lst (r.toList ++ rest) d2) : Ab G p l e R s m args below meth c nL cells slots Q pc lst st d := by
  intro H locs ls hP hS hl
  subst hst
  exact x_go (free := x_A G) (va_runS (As := As) (rest := rest) C.1 hM cw ⟨x_blind G _ d, x_pre C.2 hP hS⟩ rfl hn hl.1 rfl (lv_room hro) hdg hf) hS hl kk
theorem x_nest (C : Cx G p s m args c cc Ts own nL) : va_Nw (.methodLinkNest RX9 42 yX11_within RX11) s := by
  obtain ⟨-, -, -, h1, h2, h3, h4, h5, h6, h7, h8, h9, h10, h11, h12, h13, h14, h15, h16, h17, h18⟩ := C
  exact h17
theorem a_callSN (C : Cx G p s m args c cc Ts own nL) {y : MethodName} {host : String} {bytes : ByteArray} {maxL mc ms n index lv : Nat} {ret : Option FieldType} {ws : List Cond} {As : List Value} {r : Option Value} {d2 : xd}
    (hM : x_M G l y ws lv mc ms As d r d2) (cw : va_CN R s args own index y host bytes maxL ret ws (x_rm lv mc ms) mc ms n ∧ (Cond.static y).before args s = true ∧ True) (hn : As.length = n) {st : List Value} (hst : st = As.reverse ++ rest) (hro : (rest.map fun v => v.category).sum ≤ 8) (hdg : decode cc pc = .ok (.invokestatic index, 3)) (hf : cells + mc ≤ R.cells ∧ slots + ms ≤ R.slots)
    (kk : Ab G p l e R s m args below meth c nL (cells + mc) (slots + ms) Q (pc + 3) lst (r.toList ++ rest) d2) : Ab G p l e R s m args below meth c nL cells slots Q pc lst st d := by
  intro H locs ls hP hS hl
  subst hst
  exact x_go (free := x_A G) (va_runSN (As := As) (rest := rest) C.1 hM cw ⟨x_blind G _ d, x_pre C.2 hP hS⟩ rfl hn hl.1 rfl (lv_room hro) hdg hf) hS hl kk
/-- ends -/
theorem x_end {H : Heap} {locs : List Loc} {r : Option Value} {a : Array Value} (hP : va_P (x_D G) vwCl (x_ws G d) H) (hS : va_S (x_A G) s.heap H locs) : ∀ t : State, t.heap = H → s.WarmedH t.vm → x_Q G r d a s (.returned r) t := fun t ht _ => ⟨rfl, by rw [ht]; exact hP, hS.F ht⟩
theorem a_iret (C : Cx G p s m args c cc Ts own nL) (hlocks : meth.locks = false) (hr : meth.sig.returnType = some .int) {v v2 : Int32} {d2 : xd} (hdg : decode cc pc = .ok (.ireturn, 1)) (hv : v = v2) (hd : d = d2) : Ab G p l e R s m args below meth c nL cells slots (MQ below (x_Q G (some (.int v2)) d2) args s cells slots (x_A G)) pc lst [.int v] d := fun H locs ls hP hS hl => by
  subst hv; subst hd
  exact W.iret C.1.1 C.1.2.1 hr (x_end hP hS) hS.2.2 hdg hlocks
theorem a_zret (C : Cx G p s m args c cc Ts own nL) (hlocks : meth.locks = false) {ty : FieldType} (hr : meth.sig.returnType = some ty) {v v2 : Int32} {d2 : xd} (hn : narrow ty (.int v) = .int v) (hdg : decode cc pc = .ok (.ireturn, 1)) (hv : v = v2) (hd : d = d2) : Ab G p l e R s m args below meth c nL cells slots (MQ below (x_Q G (some (.int v2)) d2) args s cells slots (x_A G)) pc lst [.int v] d := fun H locs ls hP hS hl => by
  subst hv; subst hd
  exact W.zret C.1.1 C.1.2.1 hr hn (x_end hP hS) hS.2.2 hdg hlocks
theorem a_vret (C : Cx G p s m args c cc Ts own nL) (hlocks : meth.locks = false) (hr : meth.sig.returnType = none) {d2 : xd} (hdg : decode cc pc = .ok (.return_, 1)) (hd : d = d2) : Ab G p l e R s m args below meth c nL cells slots (MQ below (x_Q G none d2) args s cells slots (x_A G)) pc lst [] d := fun H locs ls hP hS hl => by
  subst hd
  exact W.vret C.1.1 C.1.2.1 hr (x_end hP hS) hS.2.2 hdg hlocks
theorem a_aret (C : Cx G p s m args c cc Ts own nL) (hlocks : meth.locks = false) {n : String} (hr : meth.sig.returnType = some (.object n)) {v v2 : Nat} {d2 : xd} (hdg : decode cc pc = .ok (.areturn, 1)) (hv : v = v2) (hd : d = d2) : Ab G p l e R s m args below meth c nL cells slots (MQ below (x_Q G (some (.ref v2)) d2) args s cells slots (x_A G)) pc lst [.ref v] d := fun H locs ls hP hS hl => by
  subst hv; subst hd
  exact W.aret C.1.1 C.1.2.1 hr (Or.inl ⟨n, rfl⟩) (Or.inr ⟨v, rfl⟩) (x_end hP hS) hS.2.2 hdg hlocks
/-- a method's start -/
theorem x_start {y : MethodName} {ws ws2 : List Cond} {lv mc ms maxL : Nat} {ret : Option FieldType} {av : List Value} {r : Option Value} {d2 : xd} (hy : plainName y.cls = true) (hw : ws = Cond.code y cc maxL ret :: ws2) (ho : y.cls = own) (hlen : (lg_sl av).length ≤ maxL) (hlst : lv_args 0 av = lst)
    (body : ∀ (p : Program) (e : Env) (s : State) (m : MethodId) (args : Array Value) (below : List Frame) (meth : Method) (c : Code), Cx G p s m args c cc ws own maxL → meth.sig.returnType = ret → meth.locks = false → Ab G p l e (x_rm lv mc ms) s m args below meth c maxL 0 0 (MQ below (x_Q G r d2) args s mc ms (x_A G)) 0 lst [] d) : x_M G l y ws lv mc ms av d r d2 := by
  refine Met.ofW (cc := cc) (maxL := maxL) (ret := ret) hy hw ?_
  intro p e s m args below meth c s₁ B hml hv
  obtain ⟨rfl, hP, hK⟩ := hv
  have hl := lv_entry av (n := maxL) hlen
  rw [lg_entry_eq]
  rw [hlst] at hl
  exact body p e s m _ below meth c ⟨⟨B.exec, B.bytes, hml, ho ▸ findClass_of_methodNamed B.named, atoms_spec (ws := ws) B.pre⟩, hK⟩ B.returns B.notSynchronized s.heap [] _ hP va_S.rf hl

/-- methods that throw -/
theorem x_startX {y : MethodName} {ws ws2 : List Cond} {lv maxL : Nat} {ret : Option FieldType} {av : List Value} {E : String} {d2 : xd} (hy : plainName y.cls = true) (hw : ws = Cond.code y cc maxL ret :: ws2) (ho : y.cls = own) (hlen : (lg_sl av).length ≤ maxL) (hlst : lv_args 0 av = lst)
    (body : ∀ (p : Program) (e : Env) (s : State) (m : MethodId) (args : Array Value) (below : List Frame) (meth : Method) (c : Code), Cx G p s m args c cc ws own maxL → (∀ x ∈ c.exceptionTable.toList, False) → meth.locks = false → Ab G p l e (x_rm lv 1 6) s m args below meth c maxL 0 0 (vx_MQ below (fun _ _ _ _ => False) (x_XC G E d2) args s 1 6 (x_A G)) 0 lst [] d) : x_X G l y ws lv av d E d2 := by
  refine vx_ofW (cc := cc) (maxL := maxL) (ret := ret) hy hw ?_
  intro p e s m args below meth c s₁ B hml hT hv
  obtain ⟨rfl, hP, hK⟩ := hv
  have hl := lv_entry av (n := maxL) hlen
  rw [lg_entry_eq]
  rw [hlst] at hl
  exact body p e s m _ below meth c ⟨⟨B.exec, B.bytes, hml, ho ▸ findClass_of_methodNamed B.named, atoms_spec (ws := ws) B.pre⟩, hK⟩ hT B.notSynchronized s.heap [] _ hP va_S.rf hl
theorem x_goX {mc ms : Nat} {ls : Array Slot} {st0 : List Value} {H : Heap} {locs : List Loc} {a : Array Value} {E : String} {d2 : xd} {Qc : Array Value → State → Outcome → State → Prop} {mc2 ms2 : Nat} (hr : vx_Run p l e R s m args below meth c H locs cells slots mc ms (F0 m pc ls st0) rest (fun _ _ _ => False) (x_XC G E d2) (x_A G)) (hS : va_S (x_A G) s.heap H locs) (hT : ∀ x ∈ c.exceptionTable.toList, False) (hlocks : meth.locks = false) (hc : cells + mc ≤ mc2) (hs : slots + ms ≤ ms2) :
    W p l e R s m args below meth c H locs cells slots (vx_MQ below Qc (x_XC G E d2) args s mc2 ms2 (x_A G)) (F0 m pc ls st0) := by
  intro T hT0 X
  rcases hr T hT0 X with ⟨v, st₀, t, T', L, h0, X', hL, e1, e2, hf, st⟩ | ⟨q, st₀, t, T', L, E2, ce, h0, X', hL, e1, e2, ⟨hE, hu, hz, hk⟩, hcell, hvm, hcl, st⟩
  · exact hf.elim
  · subst hE
    rw [h0] at hz hk
    have hS1 : va_S (x_A G) s.heap T'.heap (locs ++ L) := ⟨Nat.le_trans hS.1 (by rw [e1]; exact hz), fun q h1 h2 => by rw [e1, hk q (Nat.lt_of_lt_of_le h1 hS.1) h2]; exact hS.2.1 q h1 h2, fun q hq => by
      rcases List.mem_append.mp hq with h | h
      · exact hS.2.2 q h
      · exact hL q h⟩
    have hout : vx_W p l e R s m args below meth c T'.heap (locs ++ L) (cells + mc) (slots + ms) (vx_MQ below Qc (x_XC G E2 d2) args s mc2 ms2 (x_A G)) (F0 m pc ls rest) q :=
      vx_out (fun x hx => (hT x hx).elim) hlocks (by rw [e1]; exact hcell) hvm hcl (fun t9 h9 _ => ⟨rfl, by rw [h9, e1]; exact hu, hS1.F h9⟩) hS1.2.2 hc hs
    obtain ⟨t2, a1, b1⟩ := hout T' rfl X'
    exact ⟨t2, st.trans a1, b1⟩
end XROWS


