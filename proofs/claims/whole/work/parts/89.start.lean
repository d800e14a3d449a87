/-! THE CLAIM OUT OF ONE WALK OF THE LAW'S BODY. Your part is whole_start (and what it stands on); all else here is the same for every law, but numbers. -/
def R_law : String := "LampCooperativeLaw"
def lw_P (b : Addr) (xs : List Int32) (args : Array Value) (s : State) : Prop := args = #[.ref b] ∧ s.IntsAt b xs ∧ xs.length ≤ 1536 ∧ (Jvm.Cond.and given_1 narrow_1).before args s = true
/-- what a walk over the start with the record d0 says of its end, said of the start itself -/
theorem lw_closed {s t : State} {o : Outcome} {d0 : Drawn} {L : List Loc} {k n : Nat} (hd0 : s.drawn.sameBut d0 lw_cs) (hv : ∃ v, o = .returned v) (hW : (s.setDrawn d0).WarmedH t.vm) (hs : (s.setDrawn d0).sameButNew ({ t with vm := s.vm } : State) L k n) : State.butDraws s t lw_cs (fun t1 => Framed s o t1 L k n) := by
  have h2 : t.drawn = d0 := congrArg State.drawn hs.1
  refine ⟨⟨hv, hW, State.sameButNew.setDrawn hs s.drawn⟩, ?_, by decide⟩
  rw [h2]
  exact hd0
def lw_Q (_ : Array Value) (s : State) (o : Outcome) (t : State) : Prop := o = .returned (some (.int 1)) ∧ State.butDraws s t lw_cs (fun t1 => Framed s o t1 [] 603072 7170154)
def lw_Z (below : List Frame) (a : Array Value) (s : State) : State → Prop := fun t => ∃ o, t.status = .running ∧ Ended t below o ∧ lw_Q a s o t
/-- the law's own end, with 1 on the stack, nothing written that was there before, its room as the claim has it; d0: the record of draws at this point (at the entry s.drawn: begin with 'refine W.base ?_' and 'have hd0 := Drawn.sameBut.refl s.drawn lw_cs') -/
theorem lw_ret {p : Program} {l : Launch} {e : Env} {s : State} {m : MethodId} {below : List Frame} {meth : Method} {c : Code} {b : Nat} {d0 : Drawn} (hd0 : s.drawn.sameBut d0 lw_cs) (hx : p.tables.exec = Jvm.exec) (hb : c.code = code) (hr : meth.sig.returnType = ret) (hlocks : meth.locks = false) {pc : Nat} {H : Heap} {ls : Array Slot} (hdg : decode code pc = .ok (.ireturn, 1)) : W p l e room_1 (s.setDrawn d0) m #[Value.ref b] below meth c H [] 603072 7170154 (lw_Z below #[Value.ref b] s) (F0 m pc ls [.int 1]) := by
  intro T hT X
  obtain ⟨fs, hret, hrun, hended, hW, hframe⟩ := X.leave (v := some (.int 1)) (hlocks := hlocks) (fun h => by rw [hr] at h; cases h)
  have hmeth' : T.vm.method? m = some meth := X.method'
  refine ⟨T.setFrames fs, ?_, .returned (some (.int 1)), hrun, hended, rfl, lw_closed hd0 ⟨_, rfl⟩ hW hframe⟩
  jvm_step X.here [X.here.top, hx, hb, hdg, hmeth', hr, ret, narrow_b1]
  (try refine ⟨rfl, ?_⟩); (try refine ⟨rfl, ?_⟩)
  first | (intro acts; rw [hret _ acts rfl rfl rfl]) | rw [hret _ _ rfl rfl rfl]
  exact Steps.refl _
/-- what holds at the law's entry: the machine, the code, the tables' words (any of lw_tbl by 'hts w (by decide +kernel)'), the script of L ints xs at the cell b, what the Statement gives of the start (any of its parts by flat_of_before) -/
def lw_At (p : Program) (s : State) (m : MethodId) (meth : Method) (c : Code) (b L : Nat) (xs : Nat → Int32) : Prop :=
  p.tables.exec = Jvm.exec ∧ c.code = code ∧ meth.sig.returnType = ret ∧ c.maxLocals = 9 ∧ s.vm.findClass R_law = some m.cls ∧ (∀ w ∈ lw_tbl, w.before #[Value.ref b] s = true) ∧ va_X b L xs s s.heap ∧ b < s.heap.size ∧ meth.locks = false ∧ (Jvm.Cond.and given_1 narrow_1).before #[Value.ref b] s = true
theorem nl_8 : Cond.classLink RL 8 RX11 ∈ tables_1 := List.mem_of_getElem? (i := 36) (by decide +kernel)
theorem nl_165 : Cond.classLink RL 165 RX12 ∈ tables_1 := List.mem_of_getElem? (i := 1537) (by decide +kernel)
theorem nl_i1 : Cond.initialized RX11 ∈ tables_1 := List.mem_of_getElem? (i := 1) (by decide +kernel)
theorem nl_i2 : Cond.initialized RX12 ∈ tables_1 := List.mem_of_getElem? (i := 14) (by decide +kernel)
theorem nl_m1 : Cond.methodLink RL 164 yX11_init ∈ tables_1 := List.mem_of_getElem? (i := 38) (by decide +kernel)
theorem nl_m2 : Cond.methodLink RL 167 yX12_init ∈ tables_1 := List.mem_of_getElem? (i := 1539) (by decide +kernel)
theorem nl_n1 : Cond.instanceMethod yX11_init ∈ tables_1 := List.mem_of_getElem? (i := 39) (by decide +kernel)
theorem nl_n2 : Cond.instanceMethod yX12_init ∈ tables_1 := List.mem_of_getElem? (i := 1540) (by decide +kernel)
theorem x_gt {L j : Nat} (hL : L ≤ 1536) (hj : j ≤ 1600) : nI L - 3 < nI j ↔ L < j + 3 := by
  rcases Nat.lt_or_ge L 3 with h | h
  · have hneg : nI L - 3 ≤ -1 := by
      rcases (show L = 0 ∨ L = 1 ∨ L = 2 by omega) with rfl | rfl | rfl <;> decide +kernel
    constructor
    · intro _
      omega
    · intro _
      exact Int32.lt_of_le_of_lt hneg (s_m1 (a := j) (by omega))
  · rw [show (3 : Int32) = nI 3 from rfl, pk_sub h]
    constructor
    · intro q
      have := (nI_ltI (by omega) (by omega)).mp q
      omega
    · intro q
      exact nI_lt (by omega) (by omega)
theorem y_Z_0 : y_Z 0 x_d0 := by
  have z : ∀ k j, k ≠ 0 → k ≠ 175 → x_d0 k j = 0 := fun k j h h2 => if_neg (fun q => by omega)
  refine ⟨⟨0, 0, ⟨?_, ?_, ?_, ?_, fun i hi => absurd hi (Nat.not_lt_zero i), fun i hi => absurd hi (Nat.not_lt_zero i), ?_⟩, ⟨by omega, by omega, fun i hi => absurd hi (Nat.not_lt_zero i), fun i hi => absurd hi (Nat.not_lt_zero i), 0, by omega, ?_⟩, ⟨fun _ => 0, 0, fun i hi => absurd hi (Nat.not_lt_zero i), ?_, Nat.le_refl 0⟩, ?_⟩, ⟨0, 0, ?_, by omega, ?_, by omega, ?_, fun j hj => absurd hj (Nat.not_lt_zero j)⟩, Or.inl ⟨?_, ?_⟩, ⟨0, fun _ => 0, by omega, ?_, ?_, fun j hj => absurd hj (Nat.not_lt_zero j)⟩, ⟨[], ⟨?_, fun j hj => absurd hj (Nat.not_lt_zero j)⟩, ⟨?_, fun j hj => absurd hj (Nat.not_lt_zero j)⟩, by decide, fun a ha => absurd ha List.not_mem_nil, ?_⟩, ?_, ?_⟩
  · exact (z _ _ (by omega) (by omega)).trans nI_0.symm
  · exact (z _ _ (by omega) (by omega)).trans nI_0.symm
  · exact (z _ _ (by omega) (by omega)).trans nI_0.symm
  · exact (z _ _ (by omega) (by omega)).trans nI_0.symm
  · exact ⟨(z _ _ (by omega) (by omega)).trans (z _ _ (by omega) (by omega)).symm, (z _ _ (by omega) (by omega)).trans (z _ _ (by omega) (by omega)).symm, (z _ _ (by omega) (by omega)).trans (z _ _ (by omega) (by omega)).symm, (z _ _ (by omega) (by omega)).trans (z _ _ (by omega) (by omega)).symm⟩
  · exact (z _ _ (by omega) (by omega)).trans nI_0.symm
  · exact (z _ _ (by omega) (by omega)).trans nI_0.symm
  · unfold f_bal
    refine ⟨?_, ?_, ?_⟩ <;> simp [f_sum, z]
  · exact (z _ _ (by omega) (by omega)).trans nI_0.symm
  · exact (z _ _ (by omega) (by omega)).trans nI_0.symm
  · exact (if_neg (fun q => by omega) : x_d0 175 3 = 0).trans nI_0.symm
  · exact (if_neg (fun q => by omega) : x_d0 0 3 = 0)
  · exact (if_neg (fun q => by omega) : x_d0 175 5 = 0)
  · exact (z _ _ (by omega) (by omega)).trans nI_0.symm
  · exact (if_neg (fun q => by omega) : x_d0 175 7 = 0).trans nI_0.symm
  · exact (z _ _ (by omega) (by omega)).trans nI_0.symm
  · exact (if_neg (fun q => by omega) : x_d0 175 11 = 0).trans nI_0.symm
  · exact z _ _ (by omega) (by omega)
  · exact (if_pos (Or.inl ⟨rfl, Or.inl rfl⟩) : x_d0 0 11 = -1).trans (if_pos (Or.inr ⟨rfl, Or.inl rfl⟩) : x_d0 175 8 = -1).symm
  · exact (if_pos (Or.inl ⟨rfl, Or.inr rfl⟩) : x_d0 0 12 = -1).trans (if_pos (Or.inr ⟨rfl, Or.inr rfl⟩) : x_d0 175 9 = -1).symm
/-- the world as it is made, in the words of the table -/
theorem n_world {G : xG} {f : nF} {H : Heap} (hP : n_P G 185 f H) (hf : ∀ k sh, x_sh[k]? = some sh → f k = x_cell G (x_d0 k) sh) : va_P (x_D G) vwCl (x_ws G x_d0) H := by
  intro k q hk
  simp only [x_ws, List.getElem?_mapIdx, Option.map_eq_some_iff] at hk
  obtain ⟨sh, hs, rfl⟩ := hk
  have hl : k < 185 := by
    have := (List.getElem?_eq_some_iff.mp hs).1
    rwa [x_sh_len] at this
  have h := hP.2 k hl
  rw [hf k sh hs] at h
  exact h
set_option maxHeartbeats 4000000 in
set_option maxRecDepth 100000 in
theorem law_loop {p : Program} {l : Launch} {e : Env} {s : State} {m : MethodId} {below : List Frame} {meth : Method} {c : Code} {b L : Nat} {xs : Nat → Int32} (hfl : l.stackTraces = false) (hL : L ≤ 1536) (hX : va_X b L xs s s.heap) (hbl : b < s.heap.size) (hr : meth.sig.returnType = ret) (hlocks : meth.locks = false) : ∀ (r j : Nat) (G : xG) (d : xd), r + j = 514 → Cx G p s m #[Value.ref b] c code (wsL_law ++ ws_cl) RL 9 → x_b G = s.heap.size → y_Z (180 * j) d → 3 * j ≤ L + 2 → Ab G p l e room_1 s m #[Value.ref b] below meth c 9 (185 + j) (2494 + 6 * j) (lw_Z below #[Value.ref b] s) 28 [(5, .int (nI (3 * j))), (0, .ref b), (1, .ref (x_b G + 0)), (2, .ref (x_b G + 175)), (3, .ref (x_b G + 183)), (4, .ref (x_b G + 184))] [] d := by
  intro r
  induction r with
  | zero => intro j G d h1 C hb hz hj; exact absurd h1 (by omega)
  | succ r ih =>
    intro j G d h1 C hb hz hj
    have hbA : ¬ x_A G b := by
      unfold x_A
      rw [hb]
      exact Nat.not_le.mpr hbl
    refine a_iload C dL_law_28 0 rfl ?_
    refine a_aload_n C dL_law_30 1 rfl ?_
    refine a_slen C hX hbl hbA dL_law_31 ?_
    refine a_iconst C dL_law_32 (v := 3) (by decide) ?_
    refine a_isub C dL_law_33 ?_
    refine a_icmp_gt C dL_law_34 (tgt := 3097) (by decide) (fun hgt => ?_) (fun hgt => ?_)
    · refine a_iconst C dL_law_3097 (v := 1) (by decide) ?_
      intro H locs ls hP hS hl
      have hlt : L < 3 * j + 3 := (x_gt hL (by omega)).mp hgt
      refine va_forget (fun q hq => by
        have h9 := hS.2.2 q hq
        unfold x_A at h9
        rw [hb] at h9
        exact h9) ?_
      refine W.widen (k := 603072) (n := 7170154) (by omega) (by omega) ?_
      exact lw_ret (d0 := s.drawn) (Drawn.sameBut.refl s.drawn lw_cs) C.1.1 C.1.2.1 hr hlocks dL_law_3098
    · have hlt : 3 * j + 3 ≤ L := by
        rcases Nat.lt_or_ge L (3 * j + 3) with y | y
        · exact absurd ((x_gt hL (by omega)).mpr y) hgt
        · exact y
      refine a_aload_n C dL_law_37 1 rfl ?_
      refine a_iload C dL_law_38 0 rfl ?_
      refine a_sld C hX hbl hbA (i := 3 * j) rfl (by omega) (by omega) dL_law_40 ?_
      refine a_bipush C dL_law_41 (v := 63) (by decide) ?_
      refine a_iand C dL_law_43 ?_
      obtain ⟨v, hv, he⟩ := pk_andE (xs (3 * j)) 6 (m := 63) (by decide)
      refine a_top he ?_
      have K : ∀ (G2 : xG) (d2 : xd), x_b G2 = x_b G → Cx G2 p s m #[Value.ref b] c code (wsL_law ++ ws_cl) RL 9 → y_Z (180 * j + 180) d2 → Ab G2 p l e room_1 s m #[Value.ref b] below meth c 9 (185 + j + 1) (2494 + 6 * j + 6) (lw_Z below #[Value.ref b] s) 3091 [(5, .int (nI (3 * j))), (0, .ref b), (1, .ref (x_b G2 + 0)), (2, .ref (x_b G2 + 175)), (3, .ref (x_b G2 + 183)), (4, .ref (x_b G2 + 184))] [] d2 := by
        intro G2 d2 hb2 C2 hz2
        refine a_iinc C2 dL_law_3091 0 rfl (v := nI (3 * (j + 1))) (by rw [show Int32.ofInt 3 = nI 3 from by decide +kernel]; exact nI_add (3 * j) 3) (by decide) (lst2 := [(5, .int (nI (3 * (j + 1)))), (0, .ref b), (1, .ref (x_b G2 + 0)), (2, .ref (x_b G2 + 175)), (3, .ref (x_b G2 + 183)), (4, .ref (x_b G2 + 184))]) rfl ?_
        refine a_goto C2 dL_law_3094 (tgt := 28) (by decide) ?_
        refine a_widen (k := 185 + (j + 1)) (n := 2494 + 6 * (j + 1)) (by omega) (by omega) ?_
        exact ih (j + 1) G2 d2 (by omega) C2 (hb2.trans hb) (y_Z_B hz2 (by omega)) (by omega)
      have hB : 180 * j + 180 < 100000 := by omega
      have hc : 185 + j + 1 ≤ 603072 := by omega
      have hs : 2494 + 6 * j + 6 ≤ 7170154 := by omega
      rcases Nat.lt_or_ge v 57 with hv57 | hv57
      · rcases (show v = 0 ∨ v = 1 ∨ v = 2 ∨ v = 3 ∨ v = 4 ∨ v = 5 ∨ v = 6 ∨ v = 7 ∨ v = 8 ∨ v = 9 ∨ v = 10 ∨ v = 11 ∨ v = 12 ∨ v = 13 ∨ v = 14 ∨ v = 15 ∨ v = 16 ∨ v = 17 ∨ v = 18 ∨ v = 19 ∨ v = 20 ∨ v = 21 ∨ v = 22 ∨ v = 23 ∨ v = 24 ∨ v = 25 ∨ v = 26 ∨ v = 27 ∨ v = 28 ∨ v = 29 ∨ v = 30 ∨ v = 31 ∨ v = 32 ∨ v = 33 ∨ v = 34 ∨ v = 35 ∨ v = 36 ∨ v = 37 ∨ v = 38 ∨ v = 39 ∨ v = 40 ∨ v = 41 ∨ v = 42 ∨ v = 43 ∨ v = 44 ∨ v = 45 ∨ v = 46 ∨ v = 47 ∨ v = 48 ∨ v = 49 ∨ v = 50 ∨ v = 51 ∨ v = 52 ∨ v = 53 ∨ v = 54 ∨ v = 55 ∨ v = 56 by omega) with rfl | rfl | rfl | rfl | rfl | rfl | rfl | rfl | rfl | rfl | rfl | rfl | rfl | rfl | rfl | rfl | rfl | rfl | rfl | rfl | rfl | rfl | rfl | rfl | rfl | rfl | rfl | rfl | rfl | rfl | rfl | rfl | rfl | rfl | rfl | rfl | rfl | rfl | rfl | rfl | rfl | rfl | rfl | rfl | rfl | rfl | rfl | rfl | rfl | rfl | rfl | rfl | rfl | rfl | rfl | rfl | rfl
        · exact a_tableIn C dL_law_44 (by decide +kernel) (by decide +kernel) (off := 244) (by decide +kernel) (tgt := 288) (by decide) (law_0 C hfl hz hB hX hbl hbA (by omega) hlt hc hs K)
        · exact a_tableIn C dL_law_44 (by decide +kernel) (by decide +kernel) (off := 312) (by decide +kernel) (tgt := 356) (by decide) (law_1 C hfl hz hB hX hbl hbA (by omega) hlt hc hs K)
        · exact a_tableIn C dL_law_44 (by decide +kernel) (by decide +kernel) (off := 368) (by decide +kernel) (tgt := 412) (by decide) (law_2 C hfl hz hB hX hbl hbA (by omega) hlt hc hs K)
        · exact a_tableIn C dL_law_44 (by decide +kernel) (by decide +kernel) (off := 436) (by decide +kernel) (tgt := 480) (by decide) (law_3 C hfl hz hB hX hbl hbA (by omega) hlt hc hs K)
        · exact a_tableIn C dL_law_44 (by decide +kernel) (by decide +kernel) (off := 504) (by decide +kernel) (tgt := 548) (by decide) (law_4 C hfl hz hB hX hbl hbA (by omega) hlt hc hs K)
        · exact a_tableIn C dL_law_44 (by decide +kernel) (by decide +kernel) (off := 567) (by decide +kernel) (tgt := 611) (by decide) (law_5 C hfl hz hB hX hbl hbA (by omega) hlt hc hs K)
        · exact a_tableIn C dL_law_44 (by decide +kernel) (by decide +kernel) (off := 630) (by decide +kernel) (tgt := 674) (by decide) (law_6 C hfl hz hB hX hbl hbA (by omega) hlt hc hs K)
        · exact a_tableIn C dL_law_44 (by decide +kernel) (by decide +kernel) (off := 643) (by decide +kernel) (tgt := 687) (by decide) (law_7 C hfl hz hB hX hbl hbA (by omega) hlt hc hs K)
        · exact a_tableIn C dL_law_44 (by decide +kernel) (by decide +kernel) (off := 699) (by decide +kernel) (tgt := 743) (by decide) (law_8 C hfl hz hB hX hbl hbA (by omega) hlt hc hs K)
        · exact a_tableIn C dL_law_44 (by decide +kernel) (by decide +kernel) (off := 755) (by decide +kernel) (tgt := 799) (by decide) (law_9 C hfl hz hB hX hbl hbA (by omega) hlt hc hs K)
        · exact a_tableIn C dL_law_44 (by decide +kernel) (by decide +kernel) (off := 811) (by decide +kernel) (tgt := 855) (by decide) (law_10 C hfl hz hB hX hbl hbA (by omega) hlt hc hs K)
        · exact a_tableIn C dL_law_44 (by decide +kernel) (by decide +kernel) (off := 874) (by decide +kernel) (tgt := 918) (by decide) (law_11 C hfl hz hB hX hbl hbA (by omega) hlt hc hs K)
        · exact a_tableIn C dL_law_44 (by decide +kernel) (by decide +kernel) (off := 930) (by decide +kernel) (tgt := 974) (by decide) (law_12 C hfl hz hB hX hbl hbA (by omega) hlt hc hs K)
        · exact a_tableIn C dL_law_44 (by decide +kernel) (by decide +kernel) (off := 986) (by decide +kernel) (tgt := 1030) (by decide) (law_13 C hfl hz hB hX hbl hbA (by omega) hlt hc hs K)
        · exact a_tableIn C dL_law_44 (by decide +kernel) (by decide +kernel) (off := 1042) (by decide +kernel) (tgt := 1086) (by decide) (law_14 C hfl hz hB hX hbl hbA (by omega) hlt hc hs K)
        · exact a_tableIn C dL_law_44 (by decide +kernel) (by decide +kernel) (off := 1098) (by decide +kernel) (tgt := 1142) (by decide) (law_15 C hfl hz hB hX hbl hbA (by omega) hlt hc hs K)
        · exact a_tableIn C dL_law_44 (by decide +kernel) (by decide +kernel) (off := 1166) (by decide +kernel) (tgt := 1210) (by decide) (law_16 C hfl hz hB hX hbl hbA (by omega) hlt hc hs K)
        · exact a_tableIn C dL_law_44 (by decide +kernel) (by decide +kernel) (off := 1222) (by decide +kernel) (tgt := 1266) (by decide) (law_17 C hfl hz hB hX hbl hbA (by omega) hlt hc hs K)
        · exact a_tableIn C dL_law_44 (by decide +kernel) (by decide +kernel) (off := 1290) (by decide +kernel) (tgt := 1334) (by decide) (law_18 C hfl hz hB hX hbl hbA (by omega) hlt hc hs K)
        · exact a_tableIn C dL_law_44 (by decide +kernel) (by decide +kernel) (off := 1358) (by decide +kernel) (tgt := 1402) (by decide) (law_19 C hfl hz hB hX hbl hbA (by omega) hlt hc hs K)
        · exact a_tableIn C dL_law_44 (by decide +kernel) (by decide +kernel) (off := 1402) (by decide +kernel) (tgt := 1446) (by decide) (law_20 C hfl hz hB hX hbl hbA (by omega) hlt hc hs K)
        · exact a_tableIn C dL_law_44 (by decide +kernel) (by decide +kernel) (off := 1415) (by decide +kernel) (tgt := 1459) (by decide) (law_21 C hfl hz hB hX hbl hbA (by omega) hlt hc hs K)
        · exact a_tableIn C dL_law_44 (by decide +kernel) (by decide +kernel) (off := 1428) (by decide +kernel) (tgt := 1472) (by decide) (law_22 C hfl hz hB hX hbl hbA (by omega) hlt hc hs K)
        · exact a_tableIn C dL_law_44 (by decide +kernel) (by decide +kernel) (off := 1441) (by decide +kernel) (tgt := 1485) (by decide) (law_23 C hfl hz hB hX hbl hbA (by omega) hlt hc hs K)
        · exact a_tableIn C dL_law_44 (by decide +kernel) (by decide +kernel) (off := 1509) (by decide +kernel) (tgt := 1553) (by decide) (law_24 C hfl hz hB hX hbl hbA (by omega) hlt hc hs K)
        · exact a_tableIn C dL_law_44 (by decide +kernel) (by decide +kernel) (off := 1577) (by decide +kernel) (tgt := 1621) (by decide) (law_25 C hfl hz hB hX hbl hbA (by omega) hlt hc hs K)
        · exact a_tableIn C dL_law_44 (by decide +kernel) (by decide +kernel) (off := 1633) (by decide +kernel) (tgt := 1677) (by decide) (law_26 C hfl hz hB hX hbl hbA (by omega) hlt hc hs K)
        · exact a_tableIn C dL_law_44 (by decide +kernel) (by decide +kernel) (off := 1701) (by decide +kernel) (tgt := 1745) (by decide) (law_27 C hfl hz hB hX hbl hbA (by omega) hlt hc hs K)
        · exact a_tableIn C dL_law_44 (by decide +kernel) (by decide +kernel) (off := 1714) (by decide +kernel) (tgt := 1758) (by decide) (law_28 C hfl hz hB hX hbl hbA (by omega) hlt hc hs K)
        · exact a_tableIn C dL_law_44 (by decide +kernel) (by decide +kernel) (off := 1770) (by decide +kernel) (tgt := 1814) (by decide) (law_29 C hfl hz hB hX hbl hbA (by omega) hlt hc hs K)
        · exact a_tableIn C dL_law_44 (by decide +kernel) (by decide +kernel) (off := 1826) (by decide +kernel) (tgt := 1870) (by decide) (law_30 C hfl hz hB hX hbl hbA (by omega) hlt hc hs K)
        · exact a_tableIn C dL_law_44 (by decide +kernel) (by decide +kernel) (off := 1882) (by decide +kernel) (tgt := 1926) (by decide) (law_31 C hfl hz hB hX hbl hbA (by omega) hlt hc hs K)
        · exact a_tableIn C dL_law_44 (by decide +kernel) (by decide +kernel) (off := 1945) (by decide +kernel) (tgt := 1989) (by decide) (law_32 C hfl hz hB hX hbl hbA (by omega) hlt hc hs K)
        · exact a_tableIn C dL_law_44 (by decide +kernel) (by decide +kernel) (off := 1958) (by decide +kernel) (tgt := 2002) (by decide) (law_33 C hfl hz hB hX hbl hbA (by omega) hlt hc hs K)
        · exact a_tableIn C dL_law_44 (by decide +kernel) (by decide +kernel) (off := 1971) (by decide +kernel) (tgt := 2015) (by decide) (law_34 C hfl hz hB hX hbl hbA (by omega) hlt hc hs K)
        · exact a_tableIn C dL_law_44 (by decide +kernel) (by decide +kernel) (off := 2034) (by decide +kernel) (tgt := 2078) (by decide) (law_35 C hfl hz hB hX hbl hbA (by omega) hlt hc hs K)
        · exact a_tableIn C dL_law_44 (by decide +kernel) (by decide +kernel) (off := 2090) (by decide +kernel) (tgt := 2134) (by decide) (law_36 C hfl hz hB hX hbl hbA (by omega) hlt hc hs K)
        · exact a_tableIn C dL_law_44 (by decide +kernel) (by decide +kernel) (off := 2146) (by decide +kernel) (tgt := 2190) (by decide) (law_37 C hfl hz hB hX hbl hbA (by omega) hlt hc hs K)
        · exact a_tableIn C dL_law_44 (by decide +kernel) (by decide +kernel) (off := 2202) (by decide +kernel) (tgt := 2246) (by decide) (law_38 C hfl hz hB hX hbl hbA (by omega) hlt hc hs K)
        · exact a_tableIn C dL_law_44 (by decide +kernel) (by decide +kernel) (off := 2265) (by decide +kernel) (tgt := 2309) (by decide) (law_39 C hfl hz hB hX hbl hbA (by omega) hlt hc hs K)
        · exact a_tableIn C dL_law_44 (by decide +kernel) (by decide +kernel) (off := 2278) (by decide +kernel) (tgt := 2322) (by decide) (law_40 C hfl hz hB hX hbl hbA (by omega) hlt hc hs K)
        · exact a_tableIn C dL_law_44 (by decide +kernel) (by decide +kernel) (off := 2341) (by decide +kernel) (tgt := 2385) (by decide) (law_41 C hfl hz hB hX hbl hbA (by omega) hlt hc hs K)
        · exact a_tableIn C dL_law_44 (by decide +kernel) (by decide +kernel) (off := 2397) (by decide +kernel) (tgt := 2441) (by decide) (law_42 C hfl hz hB hX hbl hbA (by omega) hlt hc hs K)
        · exact a_tableIn C dL_law_44 (by decide +kernel) (by decide +kernel) (off := 2441) (by decide +kernel) (tgt := 2485) (by decide) (law_43 C hfl hz hB hX hbl hbA (by omega) hlt hc hs K)
        · exact a_tableIn C dL_law_44 (by decide +kernel) (by decide +kernel) (off := 2454) (by decide +kernel) (tgt := 2498) (by decide) (law_44 C hfl hz hB hX hbl hbA (by omega) hlt hc hs K)
        · exact a_tableIn C dL_law_44 (by decide +kernel) (by decide +kernel) (off := 2510) (by decide +kernel) (tgt := 2554) (by decide) (law_45 C hfl hz hB hX hbl hbA (by omega) hlt hc hs K)
        · exact a_tableIn C dL_law_44 (by decide +kernel) (by decide +kernel) (off := 2566) (by decide +kernel) (tgt := 2610) (by decide) (law_46 C hfl hz hB hX hbl hbA (by omega) hlt hc hs K)
        · exact a_tableIn C dL_law_44 (by decide +kernel) (by decide +kernel) (off := 2622) (by decide +kernel) (tgt := 2666) (by decide) (law_47 C hfl hz hB hX hbl hbA (by omega) hlt hc hs K)
        · exact a_tableIn C dL_law_44 (by decide +kernel) (by decide +kernel) (off := 2678) (by decide +kernel) (tgt := 2722) (by decide) (law_48 C hfl hz hB hX hbl hbA (by omega) hlt hc hs K)
        · exact a_tableIn C dL_law_44 (by decide +kernel) (by decide +kernel) (off := 2743) (by decide +kernel) (tgt := 2787) (by decide) (law_49 C hfl hz hB hX hbl hbA (by omega) hlt hc hs K)
        · exact a_tableIn C dL_law_44 (by decide +kernel) (by decide +kernel) (off := 2756) (by decide +kernel) (tgt := 2800) (by decide) (law_50 C hfl hz hB hX hbl hbA (by omega) hlt hc hs K)
        · exact a_tableIn C dL_law_44 (by decide +kernel) (by decide +kernel) (off := 2814) (by decide +kernel) (tgt := 2858) (by decide) (law_51 C hfl hz hB hX hbl hbA (by omega) hlt hc hs K)
        · exact a_tableIn C dL_law_44 (by decide +kernel) (by decide +kernel) (off := 2858) (by decide +kernel) (tgt := 2902) (by decide) (law_52 C hfl hz hB hX hbl hbA (by omega) hlt hc hs K)
        · exact a_tableIn C dL_law_44 (by decide +kernel) (by decide +kernel) (off := 2902) (by decide +kernel) (tgt := 2946) (by decide) (law_53 C hfl hz hB hX hbl hbA (by omega) hlt hc hs K)
        · exact a_tableIn C dL_law_44 (by decide +kernel) (by decide +kernel) (off := 2946) (by decide +kernel) (tgt := 2990) (by decide) (law_54 C hfl hz hB hX hbl hbA (by omega) hlt hc hs K)
        · exact a_tableIn C dL_law_44 (by decide +kernel) (by decide +kernel) (off := 2990) (by decide +kernel) (tgt := 3034) (by decide) (law_55 C hfl hz hB hX hbl hbA (by omega) hlt hc hs K)
        · exact a_tableIn C dL_law_44 (by decide +kernel) (by decide +kernel) (off := 3003) (by decide +kernel) (tgt := 3047) (by decide) (law_56 C hfl hz hB hX hbl hbA (by omega) hlt hc hs K)
      · refine a_tableOut C dL_law_44 (Or.inr ?_) (tgt := 3091) (by decide) ?_
        · rw [nI_toInt (by omega)]
          omega
        · exact a_widen (by omega) (by omega) (K G d rfl C (y_Z_B hz (by omega)))
set_option maxHeartbeats 4000000 in
set_option maxRecDepth 100000 in
/-- THE LAW, from its entry -/
theorem whole_start {p : Program} {e : Env} {s : State} {m : MethodId} {below : List Frame} {meth : Method} {c : Code} (l : Launch) (hflags : l.flags = flags0) {b L : Nat} {xs : Nat → Int32} (hL : L ≤ 1536) (C0 : lw_At p s m meth c b L xs) : W p l e room_1 s m #[Value.ref b] below meth c s.heap [] 0 0 (lw_Z below #[Value.ref b] s) (entryFrame m ([Value.ref b] : List Value).toArray 9) := by
  obtain ⟨hx, hb, hr, hml, hown, hts, hX, hbl, hlocks, hgv⟩ := id C0
  have hfl : l.stackTraces = false := by
    unfold Launch.stackTraces
    rw [hflags]
    decide +kernel
  have hts2 := lw_hts2 hts
  have htsL : ∀ w ∈ wsL_law ++ ws_cl, w.before #[Value.ref b] s = true := fun w h => (List.mem_append.mp h).elim (fun h => hts2 w (wsL_law_in w h)) (fun h => hts2 w (ws_cl_in w h))
  obtain ⟨G, hGb, hK, hN, hGl, hGu⟩ := start_G (fun w h => hts w (List.mem_append_right _ h)) hgv
  have C1 : Cx G p s m #[Value.ref b] c code (wsL_law ++ ws_cl) RL 9 := ⟨⟨hx, hb, hml, hown, htsL⟩, hK⟩
  have C : Nx G p s m #[Value.ref b] c code (wsL_law ++ ws_cl) RL 9 := ⟨C1, hN⟩
  have C9 : Nx G p s m #[Value.ref b] c code tables_1 RL 9 := ⟨⟨⟨hx, hb, hml, hown, fun w h => hts w (List.mem_append_right _ h)⟩, hK⟩, hN⟩
  have hl := lv_entry ([.ref b]) (n := 9) (Nat.le_of_ble_eq_true rfl)
  rw [lg_entry_eq]
  have main : An G p l e room_1 s m #[Value.ref b] below meth c 9 0 0 (lw_Z below #[Value.ref b] s) 0 [(0, .ref b)] [] 0 (fun _ => .inr (0, [])) := by
    refine n_new C9 (ci := 12) (fs := [.null, .null, .null, .int 0, .null, .null, .null, .null, .null, .null, .null, .int 0, .int 0]) (n2 := 1) ni_12 tyX11 tyX11_ok nl_8 (List.mem_of_getElem? nk_12) nl_i1 rfl (fun j hj => by rcases (show j = 0 ∨ j = 1 ∨ j = 2 ∨ j = 3 ∨ j = 4 ∨ j = 5 ∨ j = 6 ∨ j = 7 ∨ j = 8 ∨ j = 9 ∨ j = 10 ∨ j = 11 ∨ j = 12 by omega) with rfl | rfl | rfl | rfl | rfl | rfl | rfl | rfl | rfl | rfl | rfl | rfl | rfl <;> rfl) (Nat.le_of_ble_eq_true rfl) (Nat.le_of_ble_eq_true rfl) rfl dL_law_0 ?_
    refine n_dup C dL_law_3 rfl ?_
    refine n_callI C (As := []) (k := 0) (rest := [.ref (x_b G + 0)]) (n2 := 175) (c_X11_init l G _ (va_up_self _ _ _)) (cwI 0 C1.1.2.2.2.2 (gl_up gL_law_X11_init) rfl rfl rfl (hts _ (List.mem_append_right _ nl_i1)) (hts _ (List.mem_append_right _ nl_m1)) (hts _ (List.mem_append_right _ nl_n1)) rfl (by decide +kernel) ⟨Nat.le_of_ble_eq_true rfl, Nat.le_of_ble_eq_true rfl⟩) rfl rfl (Nat.le_of_ble_eq_true rfl) dL_law_4 ⟨Nat.le_of_ble_eq_true rfl, Nat.le_of_ble_eq_true rfl⟩ ?_
    refine n_astore_n C dL_law_7 (by decide) (lst2 := [(1, .ref (x_b G + 0)), (0, .ref b)]) rfl ?_
    refine n_new C9 (ci := 13) (fs := [.null, .null, .null, .int 0, .null, .int 0, .null, .int 0, .int 0, .int 0, .null, .int 0, .int 0, .int 0, .int 0, .null]) (n2 := 176) ni_13 tyX12 tyX12_ok nl_165 (List.mem_of_getElem? nk_13) nl_i2 rfl (fun j hj => by rcases (show j = 0 ∨ j = 1 ∨ j = 2 ∨ j = 3 ∨ j = 4 ∨ j = 5 ∨ j = 6 ∨ j = 7 ∨ j = 8 ∨ j = 9 ∨ j = 10 ∨ j = 11 ∨ j = 12 ∨ j = 13 ∨ j = 14 ∨ j = 15 by omega) with rfl | rfl | rfl | rfl | rfl | rfl | rfl | rfl | rfl | rfl | rfl | rfl | rfl | rfl | rfl | rfl <;> rfl) (Nat.le_of_ble_eq_true rfl) (Nat.le_of_ble_eq_true rfl) rfl dL_law_8 ?_
    refine n_dup C dL_law_11 rfl ?_
    refine n_callI C (As := []) (k := 175) (rest := [.ref (x_b G + 175)]) (n2 := 183) (c_X12_init l G _ (va_up_self _ _ _) (fun k hk => va_up_ne _ _ (by omega))) (cwI 0 C1.1.2.2.2.2 (gl_up gL_law_X12_init) rfl rfl rfl (hts _ (List.mem_append_right _ nl_i2)) (hts _ (List.mem_append_right _ nl_m2)) (hts _ (List.mem_append_right _ nl_n2)) rfl (by decide +kernel) ⟨Nat.le_of_ble_eq_true rfl, Nat.le_of_ble_eq_true rfl⟩) rfl rfl (Nat.le_of_ble_eq_true rfl) dL_law_12 ⟨Nat.le_of_ble_eq_true rfl, Nat.le_of_ble_eq_true rfl⟩ ?_
    refine n_astore_n C dL_law_15 (by decide) (lst2 := [(2, .ref (x_b G + 175)), (1, .ref (x_b G + 0)), (0, .ref b)]) rfl ?_
    refine n_iconst C dL_law_16 (v := 1) (by decide) ?_
    refine n_newa C9 (t := 6) (N := 1) (n2 := 184) (a0 := .inr (.inl (fun _ => 0))) (List.mem_of_getElem? na_long) rfl rfl (by decide) (by decide) (Nat.le_of_ble_eq_true rfl) (Nat.le_of_ble_eq_true rfl) (Nat.le_of_ble_eq_true rfl) rfl dL_law_17 ?_
    refine n_astore_n C dL_law_19 (by decide) (lst2 := [(3, .ref (x_b G + 183)), (2, .ref (x_b G + 175)), (1, .ref (x_b G + 0)), (0, .ref b)]) rfl ?_
    refine n_iconst C dL_law_20 (v := 1) (by decide) ?_
    refine n_newa C9 (t := 7) (N := 1) (n2 := 185) (a0 := .inr (.inr (.inr (.inl (fun _ => 0))))) (List.mem_of_getElem? na_double) rfl rfl (by decide) (by decide) (Nat.le_of_ble_eq_true rfl) (Nat.le_of_ble_eq_true rfl) (Nat.le_of_ble_eq_true rfl) rfl dL_law_21 ?_
    refine n_astore C dL_law_23 (by decide) (lst2 := [(4, .ref (x_b G + 184)), (3, .ref (x_b G + 183)), (2, .ref (x_b G + 175)), (1, .ref (x_b G + 0)), (0, .ref b)]) rfl ?_
    refine n_iconst C dL_law_25 (v := 0) (by decide) ?_
    refine n_istore C dL_law_26 (by decide) (lst2 := [(5, .int 0), (4, .ref (x_b G + 184)), (3, .ref (x_b G + 183)), (2, .ref (x_b G + 175)), (1, .ref (x_b G + 0)), (0, .ref b)]) rfl ?_
    intro H locs ls hP hS hl
    have hw : va_P (x_D G) vwCl (x_ws G x_d0) H := n_world hP (fun k sh hs => by
      by_cases h4 : k = 184
      · subst h4
        obtain rfl := Option.some.inj (x_k184.symm.trans hs)
        refine (va_up_self _ _ _).trans ?_
        show _ = Sum.inl (x_c G 7, 1, Sum.inr (Sum.inr (Sum.inr (Sum.inl (x_u G)))))
        rw [hGu]
      · by_cases h3 : k = 183
        · subst h3
          obtain rfl := Option.some.inj (x_k183.symm.trans hs)
          refine (va_up_ne _ _ (by omega)).trans ((va_up_self _ _ _).trans ?_)
          show _ = Sum.inl (x_c G 6, 1, Sum.inr (Sum.inl (x_l G)))
          rw [hGl]
        · exact (va_up_ne _ _ h4).trans ((va_up_ne _ _ h3).trans (n_all_at G hs)))
    exact a_widen (k := 185 + 0) (n := 2494 + 6 * 0) (Nat.le_of_ble_eq_true rfl) (Nat.le_of_ble_eq_true rfl) (a_sub (lst2 := [(5, .int (nI (3 * 0))), (0, .ref b), (1, .ref (x_b G + 0)), (2, .ref (x_b G + 175)), (3, .ref (x_b G + 183)), (4, .ref (x_b G + 184))]) [0, 5, 4, 3, 2, 1] rfl (law_loop hfl hL hX hbl hr hlocks 514 0 G x_d0 rfl C1 hGb y_Z_0 (by omega))) H locs ls hw hS hl
  exact main s.heap [] _ ⟨hGb.symm, fun k hk => absurd hk (Nat.not_lt_zero k)⟩ va_S.rf hl
