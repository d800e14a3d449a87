/-! what the start gives -/
def n_FL : List Cond := flatC (Cond.and given_1 narrow_1)
theorem n_ix {A B : List Cond} (ix : List Nat) (h : ix.map (fun k => B[k]?) = A.map some) : ∀ w ∈ A, w ∈ B := by
  intro w hw
  obtain ⟨j, hj⟩ := List.mem_iff_getElem?.mp hw
  have h1 : (ix.map (fun k => B[k]?))[j]? = some (some w) := by rw [h, List.getElem?_map, hj]; rfl
  rw [List.getElem?_map] at h1
  cases hi : ix[j]? with
  | none => rw [hi] at h1; cases h1
  | some i => rw [hi] at h1; exact List.mem_of_getElem? (Option.some.inj h1)
theorem nr_ex : ∀ i, i < 4 → n_FL[([10, 5, 16, 7] : List Nat).getD i 0]? = some (Cond.exactly (.static "LampCooperative$Refusal" (x_rnm.getD i "") "LLampCooperative$Refusal;") "LampCooperative$Refusal") := by decide +kernel
theorem nr_la : ∀ i, i < 4 → tables_1[([367, 363, 442, 365] : List Nat).getD i 0]? = some (Cond.laysStatic "LampCooperative$Refusal" (x_rnm.getD i "") "LLampCooperative$Refusal;") := by decide +kernel
theorem nr_ne : ∀ i, i < 4 → ∀ j, j < 4 → i ≠ j → n_FL[([0, 12, 20, 13, 12, 0, 18, 9, 20, 18, 0, 19, 13, 9, 19, 0] : List Nat).getD (4 * i + j) 0]? = some (Cond.not (.eq (.static "LampCooperative$Refusal" (x_rnm.getD i "") "LLampCooperative$Refusal;") (.static "LampCooperative$Refusal" (x_rnm.getD j "") "LLampCooperative$Refusal;"))) ∨ n_FL[([0, 12, 20, 13, 12, 0, 18, 9, 20, 18, 0, 19, 13, 9, 19, 0] : List Nat).getD (4 * i + j) 0]? = some (Cond.not (.eq (.static "LampCooperative$Refusal" (x_rnm.getD j "") "LLampCooperative$Refusal;") (.static "LampCooperative$Refusal" (x_rnm.getD i "") "LLampCooperative$Refusal;"))) := by decide +kernel
theorem nr_ini : tables_1[20]? = some (Cond.initialized "LampCooperative$Refusal") := by decide +kernel
theorem nv_ex : ∀ i, i < 13 → n_FL[([59, 68, 78, 89, 101, 114, 128, 143, 159, 176, 194, 213, 233] : List Nat).getD i 0]? = some (Cond.exactly (.static "LampCooperative$Verb" (x_vnm.getD i "") "LLampCooperative$Verb;") "LampCooperative$Verb") := by decide +kernel
theorem nv_la : ∀ i, i < 13 → tables_1[([1176, 1177, 1178, 1179, 1180, 1181, 1182, 1183, 1184, 1185, 1186, 1187, 1188] : List Nat).getD i 0]? = some (Cond.laysStatic "LampCooperative$Verb" (x_vnm.getD i "") "LLampCooperative$Verb;") := by decide +kernel
theorem nv_ne : ∀ i, i < 13 → ∀ j, j < 13 → i ≠ j → n_FL[([0, 77, 87, 98, 110, 123, 137, 152, 168, 185, 203, 222, 242, 77, 0, 88, 99, 111, 124, 138, 153, 169, 186, 204, 223, 243, 87, 88, 0, 100, 112, 125, 139, 154, 170, 187, 205, 224, 244, 98, 99, 100, 0, 113, 126, 140, 155, 171, 188, 206, 225, 245, 110, 111, 112, 113, 0, 127, 141, 156, 172, 189, 207, 226, 246, 123, 124, 125, 126, 127, 0, 142, 157, 173, 190, 208, 227, 247, 137, 138, 139, 140, 141, 142, 0, 158, 174, 191, 209, 228, 248, 152, 153, 154, 155, 156, 157, 158, 0, 175, 192, 210, 229, 249, 168, 169, 170, 171, 172, 173, 174, 175, 0, 193, 211, 230, 250, 185, 186, 187, 188, 189, 190, 191, 192, 193, 0, 212, 231, 251, 203, 204, 205, 206, 207, 208, 209, 210, 211, 212, 0, 232, 252, 222, 223, 224, 225, 226, 227, 228, 229, 230, 231, 232, 0, 253, 242, 243, 244, 245, 246, 247, 248, 249, 250, 251, 252, 253, 0] : List Nat).getD (13 * i + j) 0]? = some (Cond.not (.eq (.static "LampCooperative$Verb" (x_vnm.getD i "") "LLampCooperative$Verb;") (.static "LampCooperative$Verb" (x_vnm.getD j "") "LLampCooperative$Verb;"))) ∨ n_FL[([0, 77, 87, 98, 110, 123, 137, 152, 168, 185, 203, 222, 242, 77, 0, 88, 99, 111, 124, 138, 153, 169, 186, 204, 223, 243, 87, 88, 0, 100, 112, 125, 139, 154, 170, 187, 205, 224, 244, 98, 99, 100, 0, 113, 126, 140, 155, 171, 188, 206, 225, 245, 110, 111, 112, 113, 0, 127, 141, 156, 172, 189, 207, 226, 246, 123, 124, 125, 126, 127, 0, 142, 157, 173, 190, 208, 227, 247, 137, 138, 139, 140, 141, 142, 0, 158, 174, 191, 209, 228, 248, 152, 153, 154, 155, 156, 157, 158, 0, 175, 192, 210, 229, 249, 168, 169, 170, 171, 172, 173, 174, 175, 0, 193, 211, 230, 250, 185, 186, 187, 188, 189, 190, 191, 192, 193, 0, 212, 231, 251, 203, 204, 205, 206, 207, 208, 209, 210, 211, 212, 0, 232, 252, 222, 223, 224, 225, 226, 227, 228, 229, 230, 231, 232, 0, 253, 242, 243, 244, 245, 246, 247, 248, 249, 250, 251, 252, 253, 0] : List Nat).getD (13 * i + j) 0]? = some (Cond.not (.eq (.static "LampCooperative$Verb" (x_vnm.getD j "") "LLampCooperative$Verb;") (.static "LampCooperative$Verb" (x_vnm.getD i "") "LLampCooperative$Verb;"))) := by decide +kernel
theorem nv_f0 : ∀ i, i < 13 → n_FL[([60, 69, 79, 90, 102, 115, 129, 144, 160, 177, 195, 214, 234] : List Nat).getD i 0]? = some (Cond.eq (.field (.static "LampCooperative$Verb" (x_vnm.getD i "") "LLampCooperative$Verb;") "java/lang/Enum" "ordinal" "I") (.int (([0, 1, 2, 3, 4, 5, 6, 7, 8, 9, 10, 11, 12] : List Int32).getD i 0))) := by decide +kernel
theorem nv_f1 : ∀ i, i < 13 → n_FL[([62, 71, 81, 92, 104, 117, 131, 146, 162, 179, 197, 216, 236] : List Nat).getD i 0]? = some (Cond.eq (.field (.static "LampCooperative$Verb" (x_vnm.getD i "") "LLampCooperative$Verb;") "LampCooperative$Verb" "digits" "I") (.int (([2, 1, 0, 0, 2, 2, 1, 1, 1, 1, 0, 0, 1] : List Int32).getD i 0))) := by decide +kernel
theorem nv_f2 : ∀ i, i < 13 → n_FL[([63, 72, 82, 93, 105, 118, 132, 147, 163, 180, 198, 217, 237] : List Nat).getD i 0]? = some (Cond.eq (.field (.static "LampCooperative$Verb" (x_vnm.getD i "") "LLampCooperative$Verb;") "LampCooperative$Verb" "hasNumber" "Z") (.int (([0, 0, 1, 1, 0, 0, 0, 0, 0, 0, 0, 0, 1] : List Int32).getD i 0))) := by decide +kernel
def n_tm (i : Nat) : Term := .string (if i < 13 then "LampCooperative$Verb" else "LampCooperativeLaw") (([75, 81, 84, 87, 90, 93, 96, 99, 102, 105, 108, 111, 114, 168, 186, 188, 190, 198, 200, 202, 204, 206, 208, 210, 212, 214, 229] : List Nat).getD i 0)
theorem nw_f : ∀ i, i < 13 → n_FL[([61, 70, 80, 91, 103, 116, 130, 145, 161, 178, 196, 215, 235] : List Nat).getD i 0]? = some (Cond.eq (.field (.static "LampCooperative$Verb" (x_vnm.getD i "") "LLampCooperative$Verb;") "LampCooperative$Verb" "word" "Ljava/lang/String;") (n_tm i)) := by decide +kernel
theorem nw_ex : ∀ i, i < 27 → n_FL[([966, 974, 984, 992, 1000, 1008, 1018, 1024, 1031, 1039, 1046, 1055, 1062, 780, 802, 817, 825, 838, 850, 855, 865, 875, 879, 887, 896, 905, 910] : List Nat).getD i 0]? = some (Cond.exactly (n_tm i) "java/lang/String") := by decide +kernel
theorem nw_co : ∀ i, i < 27 → n_FL[([967, 975, 985, 993, 1001, 1009, 1019, 1025, 1032, 1040, 1047, 1056, 1063, 781, 803, 818, 826, 839, 851, 856, 866, 876, 880, 888, 897, 906, 911] : List Nat).getD i 0]? = some (Cond.eq (.field (n_tm i) "java/lang/String" "coder" "B") (.int 0)) := by decide +kernel
theorem nw_ar : ∀ i, i < 27 → n_FL[([968, 976, 986, 994, 1002, 1010, 1020, 1026, 1033, 1041, 1048, 1057, 1064, 782, 804, 819, 827, 840, 852, 857, 867, 877, 881, 889, 898, 907, 912] : List Nat).getD i 0]? = some (Cond.arrayOf (.field (n_tm i) "java/lang/String" "value" "[B") .byte) := by decide +kernel
theorem nw_le : ∀ i, i < 27 → n_FL[([969, 977, 987, 995, 1003, 1011, 1021, 1027, 1034, 1042, 1049, 1058, 1065, 783, 805, 820, 828, 841, 853, 858, 868, 878, 882, 890, 899, 908, 913] : List Nat).getD i 0]? = some (Cond.eq (.length (.field (n_tm i) "java/lang/String" "value" "[B")) (.int (Int32.ofNat (x_wl.getD i 0)))) := by decide +kernel
theorem nw_el : ∀ i, i < 27 → ∀ j, j < x_wl.getD i 0 → n_FL[([970, 978, 988, 996, 1004, 1012, 1022, 1028, 1035, 1043, 1050, 1059, 1066, 784, 806, 821, 829, 842, 854, 859, 869, 0, 883, 891, 900, 909, 914] : List Nat).getD i 0 + j]? = some (Cond.eq (.elem (.field (n_tm i) "java/lang/String" "value" "[B") (.int (Int32.ofNat j))) (.int ((x_wb.getD i []).getD j 0))) := by decide +kernel
theorem nw_N : ∀ i, i < 27 → x_wl.getD i 0 < 2 ^ 31 := by decide +kernel
theorem nw_dif : ∀ i, i < 27 → ∀ j, j < 27 → x_wl.getD i 0 = x_wl.getD j 0 → (∀ k, k < x_wl.getD i 0 → (x_wb.getD i []).getD k 0 = (x_wb.getD j []).getD k 0) → i = j := by decide +kernel
theorem nw_le9 : ∀ i, i < 27 → x_wl.getD i 0 < 100 := by decide +kernel
theorem n_Sof {s : State} {args : Array Value} {A : Nat → Prop} (hs : ∀ w ∈ n_FL, w.before args s = true) (hA : ∀ a : Nat, a < s.heap.size → ¬ A a) : ∃ adK adV : Nat → Nat, vk_S 27 x_wl x_wb adK adV A s s.heap ∧ ∀ i : Nat, i < 27 → (n_tm i).eval args s none [] s = some (.ref (adK i)) := by
  have h0 : ∀ i : Nat, ∃ q : Nat × Nat, i < 27 → (n_tm i).eval args s none [] s = some (.ref q.1) ∧ va_O "java/lang/String" q.1 A s s.heap ∧ va_OF "java/lang/String" "coder" "B" (.int 0) q.1 A s s.heap ∧ va_OF "java/lang/String" "value" "[B" (.ref q.2) q.1 A s s.heap ∧ va_T .byte q.2 (x_wl.getD i 0) (fun j => .int ((x_wb.getD i []).getD j 0)) A s s.heap := by
    intro i
    by_cases hi : i < 27
    · obtain ⟨K, V, hW, hE⟩ := vk_Sof (args := args) (s := s) (N := 1) (tm := fun _ => n_tm i) (len := [x_wl.getD i 0]) (byt := [x_wb.getD i []]) (A := A) (fun j hj => by
        obtain rfl : j = 0 := by omega
        exact nw_N i hi) (fun _ _ => hs _ (List.mem_of_getElem? (nw_ex i hi))) (fun _ _ => hs _ (List.mem_of_getElem? (nw_co i hi))) (fun _ _ => hs _ (List.mem_of_getElem? (nw_ar i hi))) (fun j hj => by
        obtain rfl : j = 0 := by omega
        exact hs _ (List.mem_of_getElem? (nw_le i hi))) (fun j hj k hk => by
        obtain rfl : j = 0 := by omega
        exact hs _ (List.mem_of_getElem? (nw_el i hi k hk))) (fun a b ha hb hab => absurd (show a = b by omega) hab) hA
      exact ⟨(K 0, V 0), fun _ => ⟨hE 0 (by omega), hW.1 0 (by omega)⟩⟩
    · exact ⟨(0, 0), fun h => absurd h hi⟩
  obtain ⟨ad, had⟩ := Classical.axiomOfChoice h0
  refine ⟨fun i => (ad i).1, fun i => (ad i).2, ⟨fun i hi => (had i hi).2, fun i j hi hj e => ?_⟩, fun i hi => (had i hi).1⟩
  have e : (ad i).1 = (ad j).1 := e
  obtain ⟨-, -, -, vi, ti⟩ := had i hi
  obtain ⟨-, -, -, vj, tj⟩ := had j hj
  have ev : (ad i).2 = (ad j).2 := by
    rw [e] at vi
    obtain ⟨cf, k, fi, f, cell, h1, h2, h3, h4, h5, h6⟩ := vi
    obtain ⟨cf', k', fi', f', cell', g1, g2, g3, g4, g5, g6⟩ := vj
    have q1 := Option.some.inj (h1.symm.trans g1)
    have q2 := Option.some.inj (h3.symm.trans g3)
    cases q1
    cases q2
    have q3 := Option.some.inj (h5.symm.trans g5)
    exact Value.ref.inj q3
  rw [ev] at ti
  obtain ⟨cell, h1, h2, h3, h4, h5, h6, h7⟩ := ti
  obtain ⟨cell', g1, g2, g3, g4, g5, g6, g7⟩ := tj
  have q1 := Option.some.inj (h1.symm.trans g1)
  cases q1
  have l1 := nw_le9 i hi
  have l2 := nw_le9 j hj
  have el : x_wl.getD i 0 = x_wl.getD j 0 := (nI_eq (by omega) (by omega)).mp (h5.symm.trans g5)
  refine nw_dif i hi j hj el (fun k hk => ?_)
  have q3 := Option.some.inj ((h6 k hk).symm.trans (g6 k (by omega)))
  exact Value.int.inj q3
theorem n_Vof {s : State} {args : Array Value} {A : Nat → Prop} (hs : ∀ w ∈ n_FL, w.before args s = true) (hA : ∀ a : Nat, a < s.heap.size → ¬ A a) : ∃ ad : Nat → Nat, x_Vn ad A s s.heap ∧ ∀ i, i < 13 → (Term.static "LampCooperative$Verb" (x_vnm.getD i "") "LLampCooperative$Verb;").eval args s none [] s = some (.ref (ad i)) := by
  have h0 : ∀ i : Nat, ∃ t : Nat, i < 13 → (Term.static "LampCooperative$Verb" (x_vnm.getD i "") "LLampCooperative$Verb;").eval args s none [] s = some (.ref t) ∧ va_O "LampCooperative$Verb" t A s s.heap := by
    intro i
    by_cases hi : i < 13
    · obtain ⟨a, c, cell, k, q1, q2, q3, q4, q5, q6, -⟩ := Cond.exactly_spec (hs _ (List.mem_of_getElem? (nv_ex i hi)))
      exact ⟨a, fun _ => ⟨q1, cell, q3, q5, by rw [q6]; exact q2, hA a (Array.getElem?_eq_some_iff.mp q3).1⟩⟩
    · exact ⟨0, fun h => absurd h hi⟩
  obtain ⟨ad, had⟩ := Classical.axiomOfChoice h0
  refine ⟨ad, ⟨fun i hi => ⟨(had i hi).2, ?_⟩, fun i j hi hj e => ?_⟩, fun i hi => (had i hi).1⟩
  · exact List.forall_mem_cons.mpr ⟨vk_OFof (had i hi).1 (va_eqt (hs _ (List.mem_of_getElem? (nv_f0 i hi)))) hA, List.forall_mem_cons.mpr ⟨vk_OFof (had i hi).1 (va_eqt (hs _ (List.mem_of_getElem? (nv_f1 i hi)))) hA, List.forall_mem_cons.mpr ⟨vk_OFof (had i hi).1 (va_eqt (hs _ (List.mem_of_getElem? (nv_f2 i hi)))) hA, fun _ h => absurd h List.not_mem_nil⟩⟩⟩
  · by_cases hij : i = j
    · exact hij
    · rcases nv_ne i hi j hj hij with h | h
      · exact absurd e (va_neR (hs _ (List.mem_of_getElem? h)) (had i hi).1 (had j hj).1)
      · exact absurd e.symm (va_neR (hs _ (List.mem_of_getElem? h)) (had j hj).1 (had i hi).1)
theorem nb_ar : n_FL[23]? = some (Cond.arrayOf (.static "LampCooperative$CommandText" "VERBS" "[LLampCooperative$Verb;") (.object "LampCooperative$Verb")) := by decide +kernel
theorem nb_le : n_FL[24]? = some (Cond.eq (.length (.static "LampCooperative$CommandText" "VERBS" "[LLampCooperative$Verb;")) (.int (Int32.ofNat 13))) := by decide +kernel
theorem nb_la : tables_1[853]? = some (Cond.laysStatic "LampCooperative$CommandText" "VERBS" "[LLampCooperative$Verb;") := by decide +kernel
theorem nb_ini : tables_1[9]? = some (Cond.initialized "LampCooperative$CommandText") := by decide +kernel
theorem nb_el : ∀ j, j < 13 → n_FL[26 + j]? = some (Cond.eq (.elem (.static "LampCooperative$CommandText" "VERBS" "[LLampCooperative$Verb;") (.int (Int32.ofNat j))) (.static "LampCooperative$Verb" (x_vnm.getD j "") "LLampCooperative$Verb;")) := by decide +kernel
theorem ns_ar : n_FL[44]? = some (Cond.arrayOf (.static "LampCooperative$1" "$SwitchMap$LampCooperative$Verb" "[I") (.int)) := by decide +kernel
theorem ns_le : n_FL[45]? = some (Cond.eq (.length (.static "LampCooperative$1" "$SwitchMap$LampCooperative$Verb" "[I")) (.int (Int32.ofNat 13))) := by decide +kernel
theorem ns_la : tables_1[931]? = some (Cond.laysStatic "LampCooperative$1" "$SwitchMap$LampCooperative$Verb" "[I") := by decide +kernel
theorem ns_ini : tables_1[27]? = some (Cond.initialized "LampCooperative$1") := by decide +kernel
theorem ns_el : ∀ j, j < 13 → n_FL[46 + j]? = some (Cond.eq (.elem (.static "LampCooperative$1" "$SwitchMap$LampCooperative$Verb" "[I") (.int (Int32.ofNat j))) (.int (Int32.ofNat (x_sm j)))) := by decide +kernel
theorem nc_eq : n_FL[4]? = some (Cond.eq (.static "java/lang/String" "COMPACT_STRINGS" "Z") (.int 1)) := by decide +kernel
theorem nc_la : tables_1[290]? = some (Cond.laysStatic "java/lang/String" "COMPACT_STRINGS" "Z") := by decide +kernel
theorem nc_ini : tables_1[12]? = some (Cond.initialized "java/lang/String") := by decide +kernel
theorem nu_la : tables_1[399]? = some (Cond.laysStatic "java/lang/Throwable" "UNASSIGNED_STACK" "[Ljava/lang/StackTraceElement;") := by decide +kernel
theorem nu_ini : tables_1[14]? = some (Cond.initialized "java/lang/Throwable") := by decide +kernel
theorem nu_rf : n_FL[14]? = some (Cond.isRef (.static "java/lang/Throwable" "UNASSIGNED_STACK" "[Ljava/lang/StackTraceElement;")) := by decide +kernel
theorem np_la : tables_1[401]? = some (Cond.laysStatic "java/lang/Throwable" "SUPPRESSED_SENTINEL" "Ljava/util/List;") := by decide +kernel
theorem np_ini : tables_1[14]? = some (Cond.initialized "java/lang/Throwable") := by decide +kernel
theorem np_rf : n_FL[15]? = some (Cond.isRef (.static "java/lang/Throwable" "SUPPRESSED_SENTINEL" "Ljava/util/List;")) := by decide +kernel
theorem nq_la : tables_1[882]? = some (Cond.laysStatic "jdk/internal/util/Preconditions" "SIOOBE_FORMATTER" "Ljava/util/function/BiFunction;") := by decide +kernel
theorem nq_ini : tables_1[26]? = some (Cond.initialized "jdk/internal/util/Preconditions") := by decide +kernel
theorem nq_rf : n_FL[39]? = some (Cond.isRef (.static "jdk/internal/util/Preconditions" "SIOOBE_FORMATTER" "Ljava/util/function/BiFunction;")) := by decide +kernel
theorem nm_st : ∀ i, i < 16 → tables_1[([415, 452, 469, 655, 744, 762, 780, 810, 1012, 1017, 920, 976, 1133, 981, 986, 999] : List Nat).getD i 0]? = some (Cond.stringRef (x_msgs.getD i ("", 0, "")).1 (x_msgs.getD i ("", 0, "")).2.1 (x_msgs.getD i ("", 0, "")).2.2) := by decide +kernel
theorem nm_ex : ∀ i, i < 16 → n_FL[([337, 362, 393, 431, 456, 483, 513, 535, 682, 721, 560, 585, 748, 605, 633, 658] : List Nat).getD i 0]? = some (Cond.exactly (.string (x_msgs.getD i ("", 0, "")).1 (x_msgs.getD i ("", 0, "")).2.1) "java/lang/String") := by decide +kernel
theorem nn_nc : ∀ i, i < 4 → n_FL[([267, 266, 282, 283] : List Nat).getD i 0]? = some (Cond.not (.castable (x_ncs.getD i ("", "")).1 (x_ncs.getD i ("", "")).2)) := by decide +kernel
theorem nn_cs : ∀ i, i < 4 → tables_1[([374, 445, 462, 773] : List Nat).getD i 0]? = some (Cond.castable (x_cs.getD i "") (x_cs.getD i "")) := by decide +kernel
theorem nn_ds : ∀ i, i < 3 → tables_1[([376, 378, 380] : List Nat).getD i 0]? = some (Cond.declares (x_ds.getD i yX11_init)) := by decide +kernel
theorem nn_ne : ∀ i, i < 8 → tables_1[([39, 217, 227, 245, 203, 45, 97, 125] : List Nat).getD i 0]? = some (Cond.methodLinkNest (n_nst.getD i ("", 0, yX11_init)).1 (n_nst.getD i ("", 0, yX11_init)).2.1 (n_nst.getD i ("", 0, yX11_init)).2.2 RX11) := by decide +kernel
theorem nn_wi : tables_1[523]? = some (Cond.methodLinkNest RX9 42 yX11_within RX11) := by decide +kernel
theorem nn_aS : tables_1[202]? = some (Cond.arrayOver (.object "LampCooperative$State")) := by decide +kernel
theorem nn_aV : tables_1[250]? = some (Cond.arrayOver (.object "LampCooperative$Verb")) := by decide +kernel
theorem na_int : tables_1[93]? = some (Cond.arrayClass .int) := by decide +kernel
theorem na_char : tables_1[279]? = some (Cond.arrayClass .char) := by decide +kernel
theorem na_boolean : tables_1[94]? = some (Cond.arrayClass .boolean) := by decide +kernel
theorem na_byte : tables_1[309]? = some (Cond.arrayClass .byte) := by decide +kernel
theorem na_ints : tables_1[1103]? = some (Cond.arrayOver (.array .int)) := by decide +kernel
/-- the law's texts: their places in its pool, what they say, their places among the strings -/
def x_lt : List (Nat × String × Nat) := [(168, "night;oil 33;night", 13), (186, "night;cap 9", 14), (188, "on 9", 15), (190, "ox", 16), (198, "oil 1234", 17), (200, "b", 18), (202, "lamp 0", 19), (204, "night ", 20), (206, "", 21), (208, "pay;", 22), (210, "buy 0", 23), (212, "cap x", 24), (214, "z", 25), (229, "lamp 2 3;lamp 1 2;lamp 2 1;wick 20;give 0 4;give 1 1", 26), (196, "oil", 2)]
theorem nl_st : ∀ i, i < 15 → tables_1[([1134, 1135, 1136, 1137, 1139, 1140, 1141, 1142, 1143, 1144, 1145, 1146, 1147, 1148, 1138] : List Nat).getD i 0]? = some (Cond.stringRef "LampCooperativeLaw" (x_lt.getD i (0, "", 0)).1 (x_lt.getD i (0, "", 0)).2.1) := by decide +kernel
theorem nl_oil : n_FL[991]? = some (Cond.eq (.string "LampCooperativeLaw" 196) (n_tm 2)) := by decide +kernel
theorem ni_0 : ∀ w ∈ u_ws RJ0 TJ0 2, w ∈ tables_1 := n_ix ([1047, 1049] : List Nat) (by decide +kernel)
theorem nk_0 : tables_1[1046]? = some (Cond.instantiable RJ0 4) := by decide +kernel
theorem ni_1 : ∀ w ∈ u_ws RJ4 TJ4 4, w ∈ tables_1 := n_ix ([300, 302, 304, 306] : List Nat) (by decide +kernel)
theorem nk_1 : tables_1[281]? = some (Cond.instantiable RJ4 4) := by decide +kernel
theorem ni_2 : ∀ w ∈ u_ws RJx00060 TJx00060 6, w ∈ tables_1 := n_ix ([1035, 1036, 1037, 1038, 1039, 1040] : List Nat) (by decide +kernel)
theorem nk_2 : tables_1[1031]? = some (Cond.instantiable RJx00060 6) := by decide +kernel
theorem ni_3 : ∀ w ∈ u_ws RX1 TX1 3, w ∈ tables_1 := n_ix ([236, 238, 240] : List Nat) (by decide +kernel)
theorem nk_3 : tables_1[226]? = some (Cond.instantiable RX1 3) := by decide +kernel
theorem ni_4 : ∀ w ∈ u_ws RX2 TX2 10, w ∈ tables_1 := n_ix ([158, 160, 162, 164, 166, 168, 170, 172, 174, 176] : List Nat) (by decide +kernel)
theorem nk_4 : tables_1[124]? = some (Cond.instantiable RX2 10) := by decide +kernel
theorem ni_5 : ∀ w ∈ u_ws RX3 TX3 7, w ∈ tables_1 := n_ix ([264, 266, 268, 270, 272, 274, 276] : List Nat) (by decide +kernel)
theorem nk_5 : tables_1[244]? = some (Cond.instantiable RX3 7) := by decide +kernel
theorem ni_6 : ∀ w ∈ u_ws RX4 TX4 3, w ∈ tables_1 := n_ix ([208, 210, 212] : List Nat) (by decide +kernel)
theorem nk_6 : tables_1[196]? = some (Cond.instantiable RX4 3) := by decide +kernel
theorem ni_7 : ∀ w ∈ u_ws RX5 TX5 8, w ∈ tables_1 := n_ix ([76, 78, 80, 82, 84, 86, 88, 90] : List Nat) (by decide +kernel)
theorem nk_7 : tables_1[44]? = some (Cond.instantiable RX5 8) := by decide +kernel
theorem ni_8 : ∀ w ∈ u_ws RX6 TX6 4, w ∈ tables_1 := n_ix ([114, 116, 118, 120] : List Nat) (by decide +kernel)
theorem nk_8 : tables_1[96]? = some (Cond.instantiable RX6 4) := by decide +kernel
theorem ni_9 : ∀ w ∈ u_ws RX7 TX7 1, w ∈ tables_1 := n_ix ([222] : List Nat) (by decide +kernel)
theorem nk_9 : tables_1[216]? = some (Cond.instantiable RX7 1) := by decide +kernel
theorem ni_10 : ∀ w ∈ u_ws RX9 TX9 3, w ∈ tables_1 := n_ix ([188, 190, 192] : List Nat) (by decide +kernel)
theorem nk_10 : tables_1[38]? = some (Cond.instantiable RX9 3) := by decide +kernel
theorem ni_11 : ∀ w ∈ u_ws RX11 TX11 13, w ∈ tables_1 := n_ix ([323, 325, 327, 329, 331, 333, 335, 337, 339, 341, 343, 345, 347] : List Nat) (by decide +kernel)
theorem nk_11 : tables_1[30]? = some (Cond.instantiable RX11 13) := by decide +kernel
set_option maxRecDepth 20000 in
set_option maxHeartbeats 4000000 in
theorem n_classes {s : State} {args : Array Value} (ht : ∀ w ∈ tables_1, w.before args s = true) : ∃ (dC : Nat → ClassId) (dI : Nat → Nat → Nat), ∀ (c : Nat) (q : vw_C), vwCl[c]? = some q → u_Kn s q.1 q.2.1 q.2.2 (dC c) (dI c) := by
  have hc : ∀ c : Nat, ∃ z : ClassId × (Nat → Nat), ∀ q : vw_C, vwCl[c]? = some q → u_Kn s q.1 q.2.1 q.2.2 z.1 z.2 := by
    intro c
    by_cases hlt : c < 12
    · rcases (show c = 0 ∨ c = 1 ∨ c = 2 ∨ c = 3 ∨ c = 4 ∨ c = 5 ∨ c = 6 ∨ c = 7 ∨ c = 8 ∨ c = 9 ∨ c = 10 ∨ c = 11 by omega) with rfl | rfl | rfl | rfl | rfl | rfl | rfl | rfl | rfl | rfl | rfl | rfl
      · obtain ⟨cC, iS, h⟩ := u_known (C := RJ0) (T := TJ0) (N := 2) (n := 4) ht ni_0 (ht _ (List.mem_of_getElem? nk_0))
        refine ⟨(cC, iS), fun q hq => ?_⟩
        obtain rfl : (RJ0, TJ0, 2) = q := Option.some.inj hq
        exact h
      · obtain ⟨cC, iS, h⟩ := u_known (C := RJ4) (T := TJ4) (N := 4) (n := 4) ht ni_1 (ht _ (List.mem_of_getElem? nk_1))
        refine ⟨(cC, iS), fun q hq => ?_⟩
        obtain rfl : (RJ4, TJ4, 4) = q := Option.some.inj hq
        exact h
      · obtain ⟨cC, iS, h⟩ := u_known (C := RJx00060) (T := TJx00060) (N := 6) (n := 6) ht ni_2 (ht _ (List.mem_of_getElem? nk_2))
        refine ⟨(cC, iS), fun q hq => ?_⟩
        obtain rfl : (RJx00060, TJx00060, 6) = q := Option.some.inj hq
        exact h
      · obtain ⟨cC, iS, h⟩ := u_known (C := RX1) (T := TX1) (N := 3) (n := 3) ht ni_3 (ht _ (List.mem_of_getElem? nk_3))
        refine ⟨(cC, iS), fun q hq => ?_⟩
        obtain rfl : (RX1, TX1, 3) = q := Option.some.inj hq
        exact h
      · obtain ⟨cC, iS, h⟩ := u_known (C := RX2) (T := TX2) (N := 10) (n := 10) ht ni_4 (ht _ (List.mem_of_getElem? nk_4))
        refine ⟨(cC, iS), fun q hq => ?_⟩
        obtain rfl : (RX2, TX2, 10) = q := Option.some.inj hq
        exact h
      · obtain ⟨cC, iS, h⟩ := u_known (C := RX3) (T := TX3) (N := 7) (n := 7) ht ni_5 (ht _ (List.mem_of_getElem? nk_5))
        refine ⟨(cC, iS), fun q hq => ?_⟩
        obtain rfl : (RX3, TX3, 7) = q := Option.some.inj hq
        exact h
      · obtain ⟨cC, iS, h⟩ := u_known (C := RX4) (T := TX4) (N := 3) (n := 3) ht ni_6 (ht _ (List.mem_of_getElem? nk_6))
        refine ⟨(cC, iS), fun q hq => ?_⟩
        obtain rfl : (RX4, TX4, 3) = q := Option.some.inj hq
        exact h
      · obtain ⟨cC, iS, h⟩ := u_known (C := RX5) (T := TX5) (N := 8) (n := 8) ht ni_7 (ht _ (List.mem_of_getElem? nk_7))
        refine ⟨(cC, iS), fun q hq => ?_⟩
        obtain rfl : (RX5, TX5, 8) = q := Option.some.inj hq
        exact h
      · obtain ⟨cC, iS, h⟩ := u_known (C := RX6) (T := TX6) (N := 4) (n := 4) ht ni_8 (ht _ (List.mem_of_getElem? nk_8))
        refine ⟨(cC, iS), fun q hq => ?_⟩
        obtain rfl : (RX6, TX6, 4) = q := Option.some.inj hq
        exact h
      · obtain ⟨cC, iS, h⟩ := u_known (C := RX7) (T := TX7) (N := 1) (n := 1) ht ni_9 (ht _ (List.mem_of_getElem? nk_9))
        refine ⟨(cC, iS), fun q hq => ?_⟩
        obtain rfl : (RX7, TX7, 1) = q := Option.some.inj hq
        exact h
      · obtain ⟨cC, iS, h⟩ := u_known (C := RX9) (T := TX9) (N := 3) (n := 3) ht ni_10 (ht _ (List.mem_of_getElem? nk_10))
        refine ⟨(cC, iS), fun q hq => ?_⟩
        obtain rfl : (RX9, TX9, 3) = q := Option.some.inj hq
        exact h
      · obtain ⟨cC, iS, h⟩ := u_known (C := RX11) (T := TX11) (N := 13) (n := 13) ht ni_11 (ht _ (List.mem_of_getElem? nk_11))
        refine ⟨(cC, iS), fun q hq => ?_⟩
        obtain rfl : (RX11, TX11, 13) = q := Option.some.inj hq
        exact h
    · exact ⟨(0, fun _ => 0), fun q hq => absurd (List.getElem?_eq_some_iff.mp hq).1 (by show ¬ c < 12; exact hlt)⟩
  obtain ⟨z, hz⟩ := Classical.axiomOfChoice hc
  exact ⟨fun c => (z c).1, fun c => (z c).2, hz⟩
theorem n_arr {s : State} {args : Array Value} {t : FieldType} (h : (Cond.arrayClass t).before args s = true) (hr : ∀ cA : ClassId, va_RA s cA t = (s.vm.findClass ("[" ++ t.toString) = some cA)) : ∃ cA : ClassId, ArrOfT s cA t ∧ va_RA s cA t := by
  obtain ⟨c, k, comp, h1, h2, h3⟩ := Cond.arrayClass_spec h
  refine ⟨c, fun n z => ⟨fun k h => (by cases h), k, h2, comp, h3⟩, ?_⟩
  rw [hr]
  exact h1
theorem n_arrq {s : State} {args : Array Value} {C : String} (h : (Cond.arrayOver (.object C)).before args s = true) : ∃ cA : ClassId, ArrOfT s cA (.object C) ∧ va_RA s cA (.object C) := by
  obtain ⟨comp, c, k, h1, h2, h3, h4, h5⟩ := Cond.arrayOver_spec h
  exact ⟨c, fun n z => ⟨fun k h => (by cases h), k, h3, comp, h4⟩, k, comp, h3, h4, h1, h5⟩
theorem n_arri {s : State} {args : Array Value} (h : (Cond.arrayOver (.array .int)).before args s = true) : ∃ cA : ClassId, ArrOfT s cA (.array .int) ∧ va_RA s cA (.array .int) := by
  obtain ⟨comp, c, k, h1, h2, h3, h4, h5⟩ := arrayOverA_spec h
  exact ⟨c, fun n z => ⟨fun k h => (by cases h), k, h3, comp, h4⟩, h5⟩
set_option maxRecDepth 20000 in
set_option maxHeartbeats 4000000 in
theorem start_G {s : State} {args : Array Value} (ht : ∀ w ∈ tables_1, w.before args s = true) (hgv : (Cond.and given_1 narrow_1).before args s = true) : ∃ G : xG, x_b G = s.heap.size ∧ x_A G = (fun q => s.heap.size ≤ q) ∧ x_K G s ∧ n_N G s ∧ ∀ q ∈ x_lt, vk_R "LampCooperativeLaw" q.1 q.2.1 (x_e G 2 q.2.2) s := by
  have hs : ∀ w ∈ n_FL, w.before args s = true := flat_of_before _ hgv
  obtain ⟨A, hAd⟩ : ∃ A : Nat → Prop, A = fun q => s.heap.size ≤ q := ⟨_, rfl⟩
  have hA : ∀ a : Nat, a < s.heap.size → ¬ A a := fun a h => by rw [hAd]; exact Nat.not_le.mpr h
  obtain ⟨dC, dI, hcl⟩ := n_classes ht
  obtain ⟨c0, a0⟩ := n_arr (ht _ (List.mem_of_getElem? na_int)) (fun _ => rfl)
  obtain ⟨c1, a1⟩ := n_arr (ht _ (List.mem_of_getElem? na_char)) (fun _ => rfl)
  obtain ⟨c2, a2⟩ := n_arr (ht _ (List.mem_of_getElem? na_boolean)) (fun _ => rfl)
  obtain ⟨c3, a3⟩ := n_arr (ht _ (List.mem_of_getElem? na_byte)) (fun _ => rfl)
  obtain ⟨c4, a4⟩ := n_arrq (ht _ (List.mem_of_getElem? nn_aS))
  obtain ⟨c5, a5⟩ := n_arrq (ht _ (List.mem_of_getElem? nn_aV))
  obtain ⟨c6, a6⟩ := n_arri (ht _ (List.mem_of_getElem? na_ints))
  obtain ⟨eR, hR, -⟩ := va_Enof2 (args := args) (s := s) (E := "LampCooperative$Refusal") (d := "LLampCooperative$Refusal;") (nm := x_rnm) (F := []) (A := A) (fun i hi => ht _ (List.mem_of_getElem? (nr_la i hi))) (ht _ (List.mem_of_getElem? nr_ini)) (fun i hi => hs _ (List.mem_of_getElem? (nr_ex i hi))) (fun q hq => absurd hq List.not_mem_nil) (fun i j hi hj hij => (nr_ne i hi j hj hij).imp (fun y => hs _ (List.mem_of_getElem? y)) (fun y => hs _ (List.mem_of_getElem? y))) hA
  obtain ⟨eV, hV, evV⟩ := n_Vof (A := A) hs hA
  obtain ⟨eK, eB, hW, evW⟩ := n_Sof (A := A) hs hA
  have hF := va_Efof (args := args) (s := s) (N := 13) (E := "LampCooperative$Verb") (d0 := "LLampCooperative$Verb;") (o := "LampCooperative$Verb") (n := "word") (d := "Ljava/lang/String;") (nm := x_vnm) (v := fun i => .ref (eK i)) (tm := n_tm) (ad := eV) (A := A) evV (fun i hi => hs _ (List.mem_of_getElem? (nw_f i hi))) (fun i hi => evW i (by omega)) hA
  obtain ⟨t0, v0, h0⟩ := va_Tof (args := args) (s := s) (tm := .static "LampCooperative$CommandText" "VERBS" "[LLampCooperative$Verb;") (ty := .object "LampCooperative$Verb") (N := 13) (f := fun j => .ref (eV j)) (A := A) (by decide) (hs _ (List.mem_of_getElem? nb_ar)) (va_eqt (hs _ (List.mem_of_getElem? nb_le))) (fun j hj => va_eqv (hs _ (List.mem_of_getElem? (nb_el j hj))) (evV j hj)) hA
  obtain ⟨t1, v1, h1⟩ := va_Tof (args := args) (s := s) (tm := .static "LampCooperative$1" "$SwitchMap$LampCooperative$Verb" "[I") (ty := .int) (N := 13) (f := fun j => .int (Int32.ofNat (x_sm j))) (A := A) (by decide) (hs _ (List.mem_of_getElem? ns_ar)) (va_eqt (hs _ (List.mem_of_getElem? ns_le))) (fun j hj => va_eqt (hs _ (List.mem_of_getElem? (ns_el j hj)))) hA
  have z0 := va_Zof (A := A) (ht _ (List.mem_of_getElem? nb_la)) (ht _ (List.mem_of_getElem? nb_ini)) v0 hA
  have z1 := va_Zof (A := A) (ht _ (List.mem_of_getElem? ns_la)) (ht _ (List.mem_of_getElem? ns_ini)) v1 hA
  have z4 := va_Zof (A := A) (ht _ (List.mem_of_getElem? nc_la)) (ht _ (List.mem_of_getElem? nc_ini)) (va_eqi (hs _ (List.mem_of_getElem? nc_eq))) hA
  have z5 := vx_Zqof (A := A) (ht _ (List.mem_of_getElem? nu_la)) (ht _ (List.mem_of_getElem? nu_ini)) (hs _ (List.mem_of_getElem? nu_rf)) hA
  have z6 := vx_Zqof (A := A) (ht _ (List.mem_of_getElem? np_la)) (ht _ (List.mem_of_getElem? np_ini)) (hs _ (List.mem_of_getElem? np_rf)) hA
  have z7 := va_Zqof (A := A) (ht _ (List.mem_of_getElem? nq_la)) (ht _ (List.mem_of_getElem? nq_ini)) (hs _ (List.mem_of_getElem? nq_rf)) hA
  have zm : ∀ q ∈ x_msgs, ∃ a : Nat, vk_R q.1 q.2.1 q.2.2 a s := by
    intro q hq
    obtain ⟨i, hi⟩ := List.mem_iff_getElem?.mp hq
    have hl : i < 16 := (List.getElem?_eq_some_iff.mp hi).1
    have e : x_msgs.getD i ("", 0, "") = q := by rw [List.getD_eq_getElem?_getD, hi]; rfl
    have m1 := ht _ (List.mem_of_getElem? (nm_st i hl))
    have m2 := hs _ (List.mem_of_getElem? (nm_ex i hl))
    rw [e] at m1 m2
    obtain ⟨a, c, cell, k, q1, -⟩ := Cond.exactly_spec m2
    exact ⟨a, vk_R.of m1 q1⟩
  have zn : ∀ q ∈ x_ncs, va_Nc q.1 q.2 s := by
    intro q hq
    obtain ⟨i, hi⟩ := List.mem_iff_getElem?.mp hq
    have hl : i < 4 := (List.getElem?_eq_some_iff.mp hi).1
    have e : x_ncs.getD i ("", "") = q := by rw [List.getD_eq_getElem?_getD, hi]; rfl
    have m1 := hs _ (List.mem_of_getElem? (nn_nc i hl))
    rw [e] at m1
    exact va_Nc.of m1
  have zd : ∀ y ∈ x_ds, va_Nw (.declares y) s := by
    intro q hq
    obtain ⟨i, hi⟩ := List.mem_iff_getElem?.mp hq
    have hl : i < 3 := (List.getElem?_eq_some_iff.mp hi).1
    have e : x_ds.getD i yX11_init = q := by rw [List.getD_eq_getElem?_getD, hi]; rfl
    have m1 := ht _ (List.mem_of_getElem? (nn_ds i hl))
    rw [e] at m1
    exact va_Nw.of rfl m1
  have zc : ∀ q ∈ x_cs, va_Nw (.castable q q) s := by
    intro q hq
    obtain ⟨i, hi⟩ := List.mem_iff_getElem?.mp hq
    have hl : i < 4 := (List.getElem?_eq_some_iff.mp hi).1
    have e : x_cs.getD i "" = q := by rw [List.getD_eq_getElem?_getD, hi]; rfl
    have m1 := ht _ (List.mem_of_getElem? (nn_cs i hl))
    rw [e] at m1
    exact va_Nw.of rfl m1
  have zw : va_Nw (.methodLinkNest RX9 42 yX11_within RX11) s := va_Nw.of rfl (ht _ (List.mem_of_getElem? nn_wi))
  have zi : va_AI s := over_moved (Vm.Alike.refl s.vm) (ht _ (List.mem_of_getElem? na_ints))
  have zl : ∀ q ∈ x_lt, vk_R "LampCooperativeLaw" q.1 q.2.1 (eK q.2.2) s := by
    intro q hq
    obtain ⟨i, hi⟩ := List.mem_iff_getElem?.mp hq
    have hl : i < 15 := (List.getElem?_eq_some_iff.mp hi).1
    have e : x_lt.getD i (0, "", 0) = q := by rw [List.getD_eq_getElem?_getD, hi]; rfl
    have m1 := ht _ (List.mem_of_getElem? (nl_st i hl))
    subst e
    rcases Nat.lt_or_ge i 14 with h14 | h14
    · have m2 := evW (13 + i) (by omega)
      have m3 : (∀ i, i < 14 → n_tm (13 + i) = .string "LampCooperativeLaw" (x_lt.getD i (0, "", 0)).1) ∧ ∀ i, i < 14 → (x_lt.getD i (0, "", 0)).2.2 = 13 + i := by decide +kernel
      rw [m3.1 i h14] at m2
      rw [m3.2 i h14]
      exact vk_R.of m1 m2
    · obtain rfl : i = 14 := by omega
      have m2 := evW 2 (by omega)
      have m3 := va_eqv (hs _ (List.mem_of_getElem? nl_oil)) m2
      exact vk_R.of m1 m3
  have hN : (∀ q ∈ n_nst, va_Nw (.methodLinkNest q.1 q.2.1 q.2.2 RX11) s) ∧ va_AO "LampCooperative$State" s ∧ va_AO "LampCooperative$Verb" s := by
    refine ⟨fun q hq => ?_, va_AO.of (ht _ (List.mem_of_getElem? nn_aS)), va_AO.of (ht _ (List.mem_of_getElem? nn_aV))⟩
    obtain ⟨i, hi⟩ := List.mem_iff_getElem?.mp hq
    have hl : i < 8 := (List.getElem?_eq_some_iff.mp hi).1
    have e : n_nst.getD i ("", 0, yX11_init) = q := by rw [List.getD_eq_getElem?_getD, hi]; rfl
    have m1 := ht _ (List.mem_of_getElem? (nn_ne i hl))
    rw [e] at m1
    exact va_Nw.of rfl m1
  obtain ⟨ee, q0, q1, q2, q3, q40, q41⟩ : ∃ ee : Nat → Nat → Nat, ee 0 = eV ∧ ee 1 = eR ∧ ee 2 = eK ∧ ee 3 = eB ∧ ee 4 0 = t0 ∧ ee 4 1 = t1 := ⟨fun k => match k with | 0 => eV | 1 => eR | 2 => eK | 3 => eB | _ => fun i => match i with | 0 => t0 | _ => t1, rfl, rfl, rfl, rfl, rfl, rfl⟩
  obtain ⟨ca, ka⟩ : ∃ ca : Nat → ClassId, ca 0 = c0 ∧ ca 1 = c1 ∧ ca 2 = c2 ∧ ca 3 = c3 ∧ ca 4 = c4 ∧ ca 5 = c5 ∧ ca 6 = c6 := ⟨fun k => match k with | 0 => c0 | 1 => c1 | 2 => c2 | 3 => c3 | 4 => c4 | 5 => c5 | _ => c6, rfl, rfl, rfl, rfl, rfl, rfl, rfl⟩
  obtain ⟨k0, k1, k2, k3, k4, k5, k6⟩ := ka
  rw [hAd] at hR hV hW hF h0 h1 z0 z1 z4 z5 z6 z7
  refine ⟨(s.heap.size, (dC, dI), ca, ee, fun q => s.heap.size ≤ q), rfl, rfl, ⟨⟨hcl, fun k q hk => ?_⟩, ⟨Nat.le_refl _, fun k _ => Nat.le_add_right _ _⟩, ?_⟩, ⟨fun q hq => hq, hN⟩, fun q hq => by subst q2; exact zl q hq⟩
  · have hl : k < 7 := (List.getElem?_eq_some_iff.mp hk).1
    rcases (show k = 0 ∨ k = 1 ∨ k = 2 ∨ k = 3 ∨ k = 4 ∨ k = 5 ∨ k = 6 by omega) with rfl | rfl | rfl | rfl | rfl | rfl | rfl
    · obtain rfl : (ca 0, FieldType.int) = q := Option.some.inj hk
      rw [k0]; exact a0
    · obtain rfl : (ca 1, FieldType.char) = q := Option.some.inj hk
      rw [k1]; exact a1
    · obtain rfl : (ca 2, FieldType.boolean) = q := Option.some.inj hk
      rw [k2]; exact a2
    · obtain rfl : (ca 3, FieldType.byte) = q := Option.some.inj hk
      rw [k3]; exact a3
    · obtain rfl : (ca 4, FieldType.object "LampCooperative$State") = q := Option.some.inj hk
      rw [k4]; exact a4
    · obtain rfl : (ca 5, FieldType.object "LampCooperative$Verb") = q := Option.some.inj hk
      rw [k5]; exact a5
    · obtain rfl : (ca 6, FieldType.array FieldType.int) = q := Option.some.inj hk
      rw [k6]; exact a6
  · subst q0 q1 q2 q3 q40 q41
    exact ⟨hR, hV, hF, hW, z0, h0, z1, h1, z5, z6, z4, zi, True.intro, True.intro, True.intro, zm, zw, zn, zd, zc, z7⟩
