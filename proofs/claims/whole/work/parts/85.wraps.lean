def ws_cl : List Cond := [Cond.classLink RL 13 "java/lang/IllegalArgumentException", Cond.classLink RL 15 "java/lang/IllegalStateException", Cond.classLink RL 21 "java/lang/IndexOutOfBoundsException", Cond.classLink RL 124 "java/util/NoSuchElementException", Cond.classLink RL 143 "java/lang/ArithmeticException", Cond.classLink RL 8 "LampCooperative", Cond.classLink RL 165 "LampCooperativeModel"]
theorem ws_cl_in : ∀ w ∈ ws_cl, w ∈ lw_tbl2 := by decide +kernel
theorem ws_cl_good : ws_cl.all goodWord = true := by decide +kernel
theorem gl_up {big ws ext : List Cond} (h : GoodIn big ws) : GoodIn (big ++ ext) ws := fun w hw => ⟨List.mem_append_left _ (h w hw).1, (h w hw).2⟩
theorem gl_law {big ws : List Cond} {own : String} {idx : Nat} {y : MethodName} (h : GoodIn big (va_wsS own idx y ws)) : GoodIn (big ++ ws_cl) (va_wsS own idx y (ws ++ ws_cl)) := by
  intro w hw
  rcases List.mem_append.mp hw with hw | hw
  · exact ⟨List.mem_append_left _ (h w (List.mem_append_left _ hw)).1, (h w (List.mem_append_left _ hw)).2⟩
  · rcases List.mem_append.mp hw with hw | hw
    · exact ⟨List.mem_append_left _ (h w (List.mem_append_right _ hw)).1, (h w (List.mem_append_right _ hw)).2⟩
    · exact ⟨List.mem_append_right _ hw, good_of_word (List.all_eq_true.mp ws_cl_good w hw)⟩
theorem w_addLamp (l : Launch) (G : xG) (d d1 : xd) (a b : Int32) (k : Nat) (r : Int32) (h : y_C l yX11_addLamp wsX11_addLamp (fun G => [.ref (x_b G + 0), .int a, .int b]) ["java/lang/IllegalArgumentException", "java/lang/IllegalStateException"] k (.int r) d d1) : x_ML G (if k = 0 then x_sl G r.toInt64 else G) l yL_addLamp (wsL_addLamp ++ ws_cl) 11 [.ref (x_b G + 0), .int a, .int b, .ref (x_b G + 183)] d (some (.int (nI k))) d1 := by
  obtain ⟨lv, hlv, ⟨rfl, h⟩ | ⟨E, h1, hE, h⟩⟩ := h
  · rw [if_pos rfl]
    refine x_startH (hh := [(0, 10, 13, 13), (0, 10, 17, 15)]) (by decide) rfl rfl (Nat.le_of_ble_eq_true rfl) rfl ?_
    intro p e s m args below meth c C hret hlocks hT
    refine a_aload_n C dL_addLamp_0 3 rfl ?_
    refine a_iconst C dL_addLamp_1 rfl ?_
    refine a_aload_n C dL_addLamp_2 0 rfl ?_
    refine a_iload_n C dL_addLamp_3 1 rfl ?_
    refine a_iload_n C dL_addLamp_4 2 rfl ?_
    refine a_callV C (k := 0) (As := [.int a, .int b]) (rest := [.int 0, .ref (x_b G + 183)]) (h G) (cwV 2 C.1.2.2.2.2 (gl_up gL_addLamp_X11_addLamp) rfl rfl rfl (by decide +kernel) ⟨by dsimp only [x_rm]; omega, by dsimp only [x_rm]; omega⟩) x_k0 (q := (RX11, TX11, 13)) rfl rfl rfl rfl (Nat.le_of_ble_eq_true rfl) dL_addLamp_5 ⟨Nat.le_of_ble_eq_true rfl, Nat.le_of_ble_eq_true rfl⟩ ?_
    refine a_i2l C dL_addLamp_8 ?_
    refine a_last C dL_addLamp_9 ?_
    refine a_goto (C.sl _) dL_addLamp_10 (tgt := 21) rfl ?_
    refine a_iconst (C.sl _) dL_addLamp_21 rfl ?_
    refine a_widen (Nat.zero_le 1) (Nat.zero_le 6) ?_
    exact a_iretL (C.sl _) rfl hlocks hret dL_addLamp_22 (by decide) rfl
  · obtain ⟨k, rfl⟩ : ∃ j, k = j + 1 := ⟨k - 1, by omega⟩
    rw [if_neg (by omega)]
    rcases k with _ | _ | k
    · injection (show some "java/lang/IllegalArgumentException" = some E from hE) with hE
      subst hE
      refine x_startH (hh := [(0, 10, 13, 13), (0, 10, 17, 15)]) (by decide) rfl rfl (Nat.le_of_ble_eq_true rfl) rfl ?_
      intro p e s m args below meth c C hret hlocks hT
      refine a_aload_n C dL_addLamp_0 3 rfl ?_
      refine a_iconst C dL_addLamp_1 rfl ?_
      refine a_aload_n C dL_addLamp_2 0 rfl ?_
      refine a_iload_n C dL_addLamp_3 1 rfl ?_
      refine a_iload_n C dL_addLamp_4 2 rfl ?_
      refine a_callC C (k := 0) (As := [.int a, .int b]) (rest := [.int 0, .ref (x_b G + 183)]) (h G) (cwV 2 C.1.2.2.2.2 (gl_up gL_addLamp_X11_addLamp) rfl rfl rfl (by decide +kernel) ⟨by dsimp only [x_rm]; omega, by dsimp only [x_rm]; omega⟩) x_k0 (q := (RX11, TX11, 13)) rfl rfl rfl rfl (Nat.le_of_ble_eq_true rfl) dL_addLamp_5 ⟨Nat.le_of_ble_eq_true rfl, Nat.le_of_ble_eq_true rfl⟩ [] ⟨0, 10, 13, 13⟩ [⟨0, 10, 17, 15⟩] (hT.trans rfl) (fun z hz => absurd hz List.not_mem_nil) (by decide) (by decide) (List.mem_append_right _ (by decide +kernel)) (by decide +kernel) (fun w => ?_)
      refine a_astore C dL_addLamp_13 (Nat.le_of_ble_eq_true rfl) rfl ?_
      refine a_iconst C dL_addLamp_15 rfl ?_
      exact a_iretL C rfl hlocks hret dL_addLamp_16 (by decide) rfl
    · injection (show some "java/lang/IllegalStateException" = some E from hE) with hE
      subst hE
      refine x_startH (hh := [(0, 10, 13, 13), (0, 10, 17, 15)]) (by decide) rfl rfl (Nat.le_of_ble_eq_true rfl) rfl ?_
      intro p e s m args below meth c C hret hlocks hT
      refine a_aload_n C dL_addLamp_0 3 rfl ?_
      refine a_iconst C dL_addLamp_1 rfl ?_
      refine a_aload_n C dL_addLamp_2 0 rfl ?_
      refine a_iload_n C dL_addLamp_3 1 rfl ?_
      refine a_iload_n C dL_addLamp_4 2 rfl ?_
      refine a_callC C (k := 0) (As := [.int a, .int b]) (rest := [.int 0, .ref (x_b G + 183)]) (h G) (cwV 2 C.1.2.2.2.2 (gl_up gL_addLamp_X11_addLamp) rfl rfl rfl (by decide +kernel) ⟨by dsimp only [x_rm]; omega, by dsimp only [x_rm]; omega⟩) x_k0 (q := (RX11, TX11, 13)) rfl rfl rfl rfl (Nat.le_of_ble_eq_true rfl) dL_addLamp_5 ⟨Nat.le_of_ble_eq_true rfl, Nat.le_of_ble_eq_true rfl⟩ [⟨0, 10, 13, 13⟩] ⟨0, 10, 17, 15⟩ [] (hT.trans rfl) (fun z hz => by
        cases List.mem_singleton.mp hz
        exact ⟨by decide, "java/lang/IllegalArgumentException", List.mem_append_right _ (by decide +kernel), by decide +kernel⟩) (by decide) (by decide) (List.mem_append_right _ (by decide +kernel)) (by decide +kernel) (fun w => ?_)
      refine a_astore C dL_addLamp_17 (Nat.le_of_ble_eq_true rfl) rfl ?_
      refine a_iconst C dL_addLamp_19 rfl ?_
      exact a_iretL C rfl hlocks hret dL_addLamp_20 (by decide) rfl
    · exact absurd (show none = some E from hE) (fun z => by cases z)
theorem w_removeLamp (l : Launch) (G : xG) (d d1 : xd) (a : Int32) (k : Nat) (r : Int32) (h : y_C l yX11_removeLamp wsX11_removeLamp (fun G => [.ref (x_b G + 0), .int a]) ["java/lang/IndexOutOfBoundsException", "java/lang/IllegalStateException"] k (.int r) d d1) : x_ML G (if k = 0 then x_sl G r.toInt64 else G) l yL_removeLamp (wsL_removeLamp ++ ws_cl) 11 [.ref (x_b G + 0), .int a, .ref (x_b G + 183)] d (some (.int (nI k))) d1 := by
  obtain ⟨lv, hlv, ⟨rfl, h⟩ | ⟨E, h1, hE, h⟩⟩ := h
  · rw [if_pos rfl]
    refine x_startH (hh := [(0, 9, 12, 21), (0, 9, 15, 15)]) (by decide) rfl rfl (Nat.le_of_ble_eq_true rfl) rfl ?_
    intro p e s m args below meth c C hret hlocks hT
    refine a_aload_n C dL_removeLamp_0 2 rfl ?_
    refine a_iconst C dL_removeLamp_1 rfl ?_
    refine a_aload_n C dL_removeLamp_2 0 rfl ?_
    refine a_iload_n C dL_removeLamp_3 1 rfl ?_
    refine a_callV C (k := 0) (As := [.int a]) (rest := [.int 0, .ref (x_b G + 183)]) (h G) (cwV 1 C.1.2.2.2.2 (gl_up gL_removeLamp_X11_removeLamp) rfl rfl rfl (by decide +kernel) ⟨by dsimp only [x_rm]; omega, by dsimp only [x_rm]; omega⟩) x_k0 (q := (RX11, TX11, 13)) rfl rfl rfl rfl (Nat.le_of_ble_eq_true rfl) dL_removeLamp_4 ⟨Nat.le_of_ble_eq_true rfl, Nat.le_of_ble_eq_true rfl⟩ ?_
    refine a_i2l C dL_removeLamp_7 ?_
    refine a_last C dL_removeLamp_8 ?_
    refine a_goto (C.sl _) dL_removeLamp_9 (tgt := 18) rfl ?_
    refine a_iconst (C.sl _) dL_removeLamp_18 rfl ?_
    refine a_widen (Nat.zero_le 1) (Nat.zero_le 6) ?_
    exact a_iretL (C.sl _) rfl hlocks hret dL_removeLamp_19 (by decide) rfl
  · obtain ⟨k, rfl⟩ : ∃ j, k = j + 1 := ⟨k - 1, by omega⟩
    rw [if_neg (by omega)]
    rcases k with _ | _ | k
    · injection (show some "java/lang/IndexOutOfBoundsException" = some E from hE) with hE
      subst hE
      refine x_startH (hh := [(0, 9, 12, 21), (0, 9, 15, 15)]) (by decide) rfl rfl (Nat.le_of_ble_eq_true rfl) rfl ?_
      intro p e s m args below meth c C hret hlocks hT
      refine a_aload_n C dL_removeLamp_0 2 rfl ?_
      refine a_iconst C dL_removeLamp_1 rfl ?_
      refine a_aload_n C dL_removeLamp_2 0 rfl ?_
      refine a_iload_n C dL_removeLamp_3 1 rfl ?_
      refine a_callC C (k := 0) (As := [.int a]) (rest := [.int 0, .ref (x_b G + 183)]) (h G) (cwV 1 C.1.2.2.2.2 (gl_up gL_removeLamp_X11_removeLamp) rfl rfl rfl (by decide +kernel) ⟨by dsimp only [x_rm]; omega, by dsimp only [x_rm]; omega⟩) x_k0 (q := (RX11, TX11, 13)) rfl rfl rfl rfl (Nat.le_of_ble_eq_true rfl) dL_removeLamp_4 ⟨Nat.le_of_ble_eq_true rfl, Nat.le_of_ble_eq_true rfl⟩ [] ⟨0, 9, 12, 21⟩ [⟨0, 9, 15, 15⟩] (hT.trans rfl) (fun z hz => absurd hz List.not_mem_nil) (by decide) (by decide) (List.mem_append_right _ (by decide +kernel)) (by decide +kernel) (fun w => ?_)
      refine a_astore_n C dL_removeLamp_12 (Nat.le_of_ble_eq_true rfl) rfl ?_
      refine a_iconst C dL_removeLamp_13 rfl ?_
      exact a_iretL C rfl hlocks hret dL_removeLamp_14 (by decide) rfl
    · injection (show some "java/lang/IllegalStateException" = some E from hE) with hE
      subst hE
      refine x_startH (hh := [(0, 9, 12, 21), (0, 9, 15, 15)]) (by decide) rfl rfl (Nat.le_of_ble_eq_true rfl) rfl ?_
      intro p e s m args below meth c C hret hlocks hT
      refine a_aload_n C dL_removeLamp_0 2 rfl ?_
      refine a_iconst C dL_removeLamp_1 rfl ?_
      refine a_aload_n C dL_removeLamp_2 0 rfl ?_
      refine a_iload_n C dL_removeLamp_3 1 rfl ?_
      refine a_callC C (k := 0) (As := [.int a]) (rest := [.int 0, .ref (x_b G + 183)]) (h G) (cwV 1 C.1.2.2.2.2 (gl_up gL_removeLamp_X11_removeLamp) rfl rfl rfl (by decide +kernel) ⟨by dsimp only [x_rm]; omega, by dsimp only [x_rm]; omega⟩) x_k0 (q := (RX11, TX11, 13)) rfl rfl rfl rfl (Nat.le_of_ble_eq_true rfl) dL_removeLamp_4 ⟨Nat.le_of_ble_eq_true rfl, Nat.le_of_ble_eq_true rfl⟩ [⟨0, 9, 12, 21⟩] ⟨0, 9, 15, 15⟩ [] (hT.trans rfl) (fun z hz => by
        cases List.mem_singleton.mp hz
        exact ⟨by decide, "java/lang/IndexOutOfBoundsException", List.mem_append_right _ (by decide +kernel), by decide +kernel⟩) (by decide) (by decide) (List.mem_append_right _ (by decide +kernel)) (by decide +kernel) (fun w => ?_)
      refine a_astore_n C dL_removeLamp_15 (Nat.le_of_ble_eq_true rfl) rfl ?_
      refine a_iconst C dL_removeLamp_16 rfl ?_
      exact a_iretL C rfl hlocks hret dL_removeLamp_17 (by decide) rfl
    · exact absurd (show none = some E from hE) (fun z => by cases z)
theorem w_setShares (l : Launch) (G : xG) (d d1 : xd) (a b : Int32) (k : Nat) (r : Int32) (h : y_C l yX11_setShares wsX11_setShares (fun G => [.ref (x_b G + 0), .int a, .int b]) ["java/lang/IndexOutOfBoundsException", "java/lang/IllegalArgumentException"] k (.int r) d d1) : x_ML G (if k = 0 then x_sl G r.toInt64 else G) l yL_setShares (wsL_setShares ++ ws_cl) 11 [.ref (x_b G + 0), .int a, .int b, .ref (x_b G + 183)] d (some (.int (nI k))) d1 := by
  obtain ⟨lv, hlv, ⟨rfl, h⟩ | ⟨E, h1, hE, h⟩⟩ := h
  · rw [if_pos rfl]
    refine x_startH (hh := [(0, 10, 13, 21), (0, 10, 17, 13)]) (by decide) rfl rfl (Nat.le_of_ble_eq_true rfl) rfl ?_
    intro p e s m args below meth c C hret hlocks hT
    refine a_aload_n C dL_setShares_0 3 rfl ?_
    refine a_iconst C dL_setShares_1 rfl ?_
    refine a_aload_n C dL_setShares_2 0 rfl ?_
    refine a_iload_n C dL_setShares_3 1 rfl ?_
    refine a_iload_n C dL_setShares_4 2 rfl ?_
    refine a_callV C (k := 0) (As := [.int a, .int b]) (rest := [.int 0, .ref (x_b G + 183)]) (h G) (cwV 2 C.1.2.2.2.2 (gl_up gL_setShares_X11_setShares) rfl rfl rfl (by decide +kernel) ⟨by dsimp only [x_rm]; omega, by dsimp only [x_rm]; omega⟩) x_k0 (q := (RX11, TX11, 13)) rfl rfl rfl rfl (Nat.le_of_ble_eq_true rfl) dL_setShares_5 ⟨Nat.le_of_ble_eq_true rfl, Nat.le_of_ble_eq_true rfl⟩ ?_
    refine a_i2l C dL_setShares_8 ?_
    refine a_last C dL_setShares_9 ?_
    refine a_goto (C.sl _) dL_setShares_10 (tgt := 21) rfl ?_
    refine a_iconst (C.sl _) dL_setShares_21 rfl ?_
    refine a_widen (Nat.zero_le 1) (Nat.zero_le 6) ?_
    exact a_iretL (C.sl _) rfl hlocks hret dL_setShares_22 (by decide) rfl
  · obtain ⟨k, rfl⟩ : ∃ j, k = j + 1 := ⟨k - 1, by omega⟩
    rw [if_neg (by omega)]
    rcases k with _ | _ | k
    · injection (show some "java/lang/IndexOutOfBoundsException" = some E from hE) with hE
      subst hE
      refine x_startH (hh := [(0, 10, 13, 21), (0, 10, 17, 13)]) (by decide) rfl rfl (Nat.le_of_ble_eq_true rfl) rfl ?_
      intro p e s m args below meth c C hret hlocks hT
      refine a_aload_n C dL_setShares_0 3 rfl ?_
      refine a_iconst C dL_setShares_1 rfl ?_
      refine a_aload_n C dL_setShares_2 0 rfl ?_
      refine a_iload_n C dL_setShares_3 1 rfl ?_
      refine a_iload_n C dL_setShares_4 2 rfl ?_
      refine a_callC C (k := 0) (As := [.int a, .int b]) (rest := [.int 0, .ref (x_b G + 183)]) (h G) (cwV 2 C.1.2.2.2.2 (gl_up gL_setShares_X11_setShares) rfl rfl rfl (by decide +kernel) ⟨by dsimp only [x_rm]; omega, by dsimp only [x_rm]; omega⟩) x_k0 (q := (RX11, TX11, 13)) rfl rfl rfl rfl (Nat.le_of_ble_eq_true rfl) dL_setShares_5 ⟨Nat.le_of_ble_eq_true rfl, Nat.le_of_ble_eq_true rfl⟩ [] ⟨0, 10, 13, 21⟩ [⟨0, 10, 17, 13⟩] (hT.trans rfl) (fun z hz => absurd hz List.not_mem_nil) (by decide) (by decide) (List.mem_append_right _ (by decide +kernel)) (by decide +kernel) (fun w => ?_)
      refine a_astore C dL_setShares_13 (Nat.le_of_ble_eq_true rfl) rfl ?_
      refine a_iconst C dL_setShares_15 rfl ?_
      exact a_iretL C rfl hlocks hret dL_setShares_16 (by decide) rfl
    · injection (show some "java/lang/IllegalArgumentException" = some E from hE) with hE
      subst hE
      refine x_startH (hh := [(0, 10, 13, 21), (0, 10, 17, 13)]) (by decide) rfl rfl (Nat.le_of_ble_eq_true rfl) rfl ?_
      intro p e s m args below meth c C hret hlocks hT
      refine a_aload_n C dL_setShares_0 3 rfl ?_
      refine a_iconst C dL_setShares_1 rfl ?_
      refine a_aload_n C dL_setShares_2 0 rfl ?_
      refine a_iload_n C dL_setShares_3 1 rfl ?_
      refine a_iload_n C dL_setShares_4 2 rfl ?_
      refine a_callC C (k := 0) (As := [.int a, .int b]) (rest := [.int 0, .ref (x_b G + 183)]) (h G) (cwV 2 C.1.2.2.2.2 (gl_up gL_setShares_X11_setShares) rfl rfl rfl (by decide +kernel) ⟨by dsimp only [x_rm]; omega, by dsimp only [x_rm]; omega⟩) x_k0 (q := (RX11, TX11, 13)) rfl rfl rfl rfl (Nat.le_of_ble_eq_true rfl) dL_setShares_5 ⟨Nat.le_of_ble_eq_true rfl, Nat.le_of_ble_eq_true rfl⟩ [⟨0, 10, 13, 21⟩] ⟨0, 10, 17, 13⟩ [] (hT.trans rfl) (fun z hz => by
        cases List.mem_singleton.mp hz
        exact ⟨by decide, "java/lang/IndexOutOfBoundsException", List.mem_append_right _ (by decide +kernel), by decide +kernel⟩) (by decide) (by decide) (List.mem_append_right _ (by decide +kernel)) (by decide +kernel) (fun w => ?_)
      refine a_astore C dL_setShares_17 (Nat.le_of_ble_eq_true rfl) rfl ?_
      refine a_iconst C dL_setShares_19 rfl ?_
      exact a_iretL C rfl hlocks hret dL_setShares_20 (by decide) rfl
    · exact absurd (show none = some E from hE) (fun z => by cases z)
theorem w_setBrightness (l : Launch) (G : xG) (d d1 : xd) (a b : Int32) (k : Nat) (r : Int32) (h : y_C l yX11_setBrightness wsX11_setBrightness (fun G => [.ref (x_b G + 0), .int a, .int b]) ["java/lang/IndexOutOfBoundsException", "java/lang/IllegalArgumentException"] k (.int r) d d1) : x_ML G (if k = 0 then x_sl G r.toInt64 else G) l yL_setBrightness (wsL_setBrightness ++ ws_cl) 11 [.ref (x_b G + 0), .int a, .int b, .ref (x_b G + 183)] d (some (.int (nI k))) d1 := by
  obtain ⟨lv, hlv, ⟨rfl, h⟩ | ⟨E, h1, hE, h⟩⟩ := h
  · rw [if_pos rfl]
    refine x_startH (hh := [(0, 10, 13, 21), (0, 10, 17, 13)]) (by decide) rfl rfl (Nat.le_of_ble_eq_true rfl) rfl ?_
    intro p e s m args below meth c C hret hlocks hT
    refine a_aload_n C dL_setBrightness_0 3 rfl ?_
    refine a_iconst C dL_setBrightness_1 rfl ?_
    refine a_aload_n C dL_setBrightness_2 0 rfl ?_
    refine a_iload_n C dL_setBrightness_3 1 rfl ?_
    refine a_iload_n C dL_setBrightness_4 2 rfl ?_
    refine a_callV C (k := 0) (As := [.int a, .int b]) (rest := [.int 0, .ref (x_b G + 183)]) (h G) (cwV 2 C.1.2.2.2.2 (gl_up gL_setBrightness_X11_setBrightness) rfl rfl rfl (by decide +kernel) ⟨by dsimp only [x_rm]; omega, by dsimp only [x_rm]; omega⟩) x_k0 (q := (RX11, TX11, 13)) rfl rfl rfl rfl (Nat.le_of_ble_eq_true rfl) dL_setBrightness_5 ⟨Nat.le_of_ble_eq_true rfl, Nat.le_of_ble_eq_true rfl⟩ ?_
    refine a_i2l C dL_setBrightness_8 ?_
    refine a_last C dL_setBrightness_9 ?_
    refine a_goto (C.sl _) dL_setBrightness_10 (tgt := 21) rfl ?_
    refine a_iconst (C.sl _) dL_setBrightness_21 rfl ?_
    refine a_widen (Nat.zero_le 1) (Nat.zero_le 6) ?_
    exact a_iretL (C.sl _) rfl hlocks hret dL_setBrightness_22 (by decide) rfl
  · obtain ⟨k, rfl⟩ : ∃ j, k = j + 1 := ⟨k - 1, by omega⟩
    rw [if_neg (by omega)]
    rcases k with _ | _ | k
    · injection (show some "java/lang/IndexOutOfBoundsException" = some E from hE) with hE
      subst hE
      refine x_startH (hh := [(0, 10, 13, 21), (0, 10, 17, 13)]) (by decide) rfl rfl (Nat.le_of_ble_eq_true rfl) rfl ?_
      intro p e s m args below meth c C hret hlocks hT
      refine a_aload_n C dL_setBrightness_0 3 rfl ?_
      refine a_iconst C dL_setBrightness_1 rfl ?_
      refine a_aload_n C dL_setBrightness_2 0 rfl ?_
      refine a_iload_n C dL_setBrightness_3 1 rfl ?_
      refine a_iload_n C dL_setBrightness_4 2 rfl ?_
      refine a_callC C (k := 0) (As := [.int a, .int b]) (rest := [.int 0, .ref (x_b G + 183)]) (h G) (cwV 2 C.1.2.2.2.2 (gl_up gL_setBrightness_X11_setBrightness) rfl rfl rfl (by decide +kernel) ⟨by dsimp only [x_rm]; omega, by dsimp only [x_rm]; omega⟩) x_k0 (q := (RX11, TX11, 13)) rfl rfl rfl rfl (Nat.le_of_ble_eq_true rfl) dL_setBrightness_5 ⟨Nat.le_of_ble_eq_true rfl, Nat.le_of_ble_eq_true rfl⟩ [] ⟨0, 10, 13, 21⟩ [⟨0, 10, 17, 13⟩] (hT.trans rfl) (fun z hz => absurd hz List.not_mem_nil) (by decide) (by decide) (List.mem_append_right _ (by decide +kernel)) (by decide +kernel) (fun w => ?_)
      refine a_astore C dL_setBrightness_13 (Nat.le_of_ble_eq_true rfl) rfl ?_
      refine a_iconst C dL_setBrightness_15 rfl ?_
      exact a_iretL C rfl hlocks hret dL_setBrightness_16 (by decide) rfl
    · injection (show some "java/lang/IllegalArgumentException" = some E from hE) with hE
      subst hE
      refine x_startH (hh := [(0, 10, 13, 21), (0, 10, 17, 13)]) (by decide) rfl rfl (Nat.le_of_ble_eq_true rfl) rfl ?_
      intro p e s m args below meth c C hret hlocks hT
      refine a_aload_n C dL_setBrightness_0 3 rfl ?_
      refine a_iconst C dL_setBrightness_1 rfl ?_
      refine a_aload_n C dL_setBrightness_2 0 rfl ?_
      refine a_iload_n C dL_setBrightness_3 1 rfl ?_
      refine a_iload_n C dL_setBrightness_4 2 rfl ?_
      refine a_callC C (k := 0) (As := [.int a, .int b]) (rest := [.int 0, .ref (x_b G + 183)]) (h G) (cwV 2 C.1.2.2.2.2 (gl_up gL_setBrightness_X11_setBrightness) rfl rfl rfl (by decide +kernel) ⟨by dsimp only [x_rm]; omega, by dsimp only [x_rm]; omega⟩) x_k0 (q := (RX11, TX11, 13)) rfl rfl rfl rfl (Nat.le_of_ble_eq_true rfl) dL_setBrightness_5 ⟨Nat.le_of_ble_eq_true rfl, Nat.le_of_ble_eq_true rfl⟩ [⟨0, 10, 13, 21⟩] ⟨0, 10, 17, 13⟩ [] (hT.trans rfl) (fun z hz => by
        cases List.mem_singleton.mp hz
        exact ⟨by decide, "java/lang/IndexOutOfBoundsException", List.mem_append_right _ (by decide +kernel), by decide +kernel⟩) (by decide) (by decide) (List.mem_append_right _ (by decide +kernel)) (by decide +kernel) (fun w => ?_)
      refine a_astore C dL_setBrightness_17 (Nat.le_of_ble_eq_true rfl) rfl ?_
      refine a_iconst C dL_setBrightness_19 rfl ?_
      exact a_iretL C rfl hlocks hret dL_setBrightness_20 (by decide) rfl
    · exact absurd (show none = some E from hE) (fun z => by cases z)
theorem w_switchOn (l : Launch) (G : xG) (d d1 : xd) (a : Int32) (k : Nat) (r : Int32) (h : y_C l yX11_switchOn wsX11_switchOn (fun G => [.ref (x_b G + 0), .int a]) ["java/lang/IndexOutOfBoundsException"] k (.int r) d d1) : x_ML G (if k = 0 then x_sl G (x_lz r) else G) l yL_switchOn (wsL_switchOn ++ ws_cl) 11 [.ref (x_b G + 0), .int a, .ref (x_b G + 183)] d (some (.int (nI k))) d1 := by
  obtain ⟨lv, hlv, ⟨rfl, h⟩ | ⟨E, h1, hE, h⟩⟩ := h
  · rw [if_pos rfl]
    refine x_startH (hh := [(0, 16, 19, 21)]) (by decide) rfl rfl (Nat.le_of_ble_eq_true rfl) rfl ?_
    intro p e s m args below meth c C hret hlocks hT
    refine a_aload_n C dL_switchOn_0 2 rfl ?_
    refine a_iconst C dL_switchOn_1 rfl ?_
    refine a_aload_n C dL_switchOn_2 0 rfl ?_
    refine a_iload_n C dL_switchOn_3 1 rfl ?_
    refine a_callV C (k := 0) (As := [.int a]) (rest := [.int 0, .ref (x_b G + 183)]) (h G) (cwV 1 C.1.2.2.2.2 (gl_up gL_switchOn_X11_switchOn) rfl rfl rfl (by decide +kernel) ⟨by dsimp only [x_rm]; omega, by dsimp only [x_rm]; omega⟩) x_k0 (q := (RX11, TX11, 13)) rfl rfl rfl rfl (Nat.le_of_ble_eq_true rfl) dL_switchOn_4 ⟨Nat.le_of_ble_eq_true rfl, Nat.le_of_ble_eq_true rfl⟩ ?_
    refine a_if_eq C dL_switchOn_7 (tgt := 14) rfl (fun hz => ?_) (fun hz => ?_)
    · rw [show x_lz r = 0 from if_pos hz]
      refine a_lconst C dL_switchOn_14 rfl ?_
      refine a_last C dL_switchOn_15 ?_
      refine a_goto (C.sl _) dL_switchOn_16 (tgt := 22) rfl ?_
      refine a_iconst (C.sl _) dL_switchOn_22 rfl ?_
      refine a_widen (Nat.zero_le 1) (Nat.zero_le 6) ?_
      exact a_iretL (C.sl _) rfl hlocks hret dL_switchOn_23 (by decide) rfl
    · rw [show x_lz r = 1 from if_neg hz]
      refine a_lconst C dL_switchOn_10 rfl ?_
      refine a_goto C dL_switchOn_11 (tgt := 15) rfl ?_
      refine a_last C dL_switchOn_15 ?_
      refine a_goto (C.sl _) dL_switchOn_16 (tgt := 22) rfl ?_
      refine a_iconst (C.sl _) dL_switchOn_22 rfl ?_
      refine a_widen (Nat.zero_le 1) (Nat.zero_le 6) ?_
      exact a_iretL (C.sl _) rfl hlocks hret dL_switchOn_23 (by decide) rfl
  · obtain ⟨k, rfl⟩ : ∃ j, k = j + 1 := ⟨k - 1, by omega⟩
    rw [if_neg (by omega)]
    rcases k with _ | k
    · injection (show some "java/lang/IndexOutOfBoundsException" = some E from hE) with hE
      subst hE
      refine x_startH (hh := [(0, 16, 19, 21)]) (by decide) rfl rfl (Nat.le_of_ble_eq_true rfl) rfl ?_
      intro p e s m args below meth c C hret hlocks hT
      refine a_aload_n C dL_switchOn_0 2 rfl ?_
      refine a_iconst C dL_switchOn_1 rfl ?_
      refine a_aload_n C dL_switchOn_2 0 rfl ?_
      refine a_iload_n C dL_switchOn_3 1 rfl ?_
      refine a_callC C (k := 0) (As := [.int a]) (rest := [.int 0, .ref (x_b G + 183)]) (h G) (cwV 1 C.1.2.2.2.2 (gl_up gL_switchOn_X11_switchOn) rfl rfl rfl (by decide +kernel) ⟨by dsimp only [x_rm]; omega, by dsimp only [x_rm]; omega⟩) x_k0 (q := (RX11, TX11, 13)) rfl rfl rfl rfl (Nat.le_of_ble_eq_true rfl) dL_switchOn_4 ⟨Nat.le_of_ble_eq_true rfl, Nat.le_of_ble_eq_true rfl⟩ [] ⟨0, 16, 19, 21⟩ [] (hT.trans rfl) (fun z hz => absurd hz List.not_mem_nil) (by decide) (by decide) (List.mem_append_right _ (by decide +kernel)) (by decide +kernel) (fun w => ?_)
      refine a_astore_n C dL_switchOn_19 (Nat.le_of_ble_eq_true rfl) rfl ?_
      refine a_iconst C dL_switchOn_20 rfl ?_
      exact a_iretL C rfl hlocks hret dL_switchOn_21 (by decide) rfl
    · exact absurd (show none = some E from hE) (fun z => by cases z)
theorem w_switchOff (l : Launch) (G : xG) (d d1 : xd) (a : Int32) (k : Nat) (r : Int32) (h : y_C l yX11_switchOff wsX11_switchOff (fun G => [.ref (x_b G + 0), .int a]) ["java/lang/IndexOutOfBoundsException"] k (.int r) d d1) : x_ML G (if k = 0 then x_sl G (x_lz r) else G) l yL_switchOff (wsL_switchOff ++ ws_cl) 11 [.ref (x_b G + 0), .int a, .ref (x_b G + 183)] d (some (.int (nI k))) d1 := by
  obtain ⟨lv, hlv, ⟨rfl, h⟩ | ⟨E, h1, hE, h⟩⟩ := h
  · rw [if_pos rfl]
    refine x_startH (hh := [(0, 16, 19, 21)]) (by decide) rfl rfl (Nat.le_of_ble_eq_true rfl) rfl ?_
    intro p e s m args below meth c C hret hlocks hT
    refine a_aload_n C dL_switchOff_0 2 rfl ?_
    refine a_iconst C dL_switchOff_1 rfl ?_
    refine a_aload_n C dL_switchOff_2 0 rfl ?_
    refine a_iload_n C dL_switchOff_3 1 rfl ?_
    refine a_callV C (k := 0) (As := [.int a]) (rest := [.int 0, .ref (x_b G + 183)]) (h G) (cwV 1 C.1.2.2.2.2 (gl_up gL_switchOff_X11_switchOff) rfl rfl rfl (by decide +kernel) ⟨by dsimp only [x_rm]; omega, by dsimp only [x_rm]; omega⟩) x_k0 (q := (RX11, TX11, 13)) rfl rfl rfl rfl (Nat.le_of_ble_eq_true rfl) dL_switchOff_4 ⟨Nat.le_of_ble_eq_true rfl, Nat.le_of_ble_eq_true rfl⟩ ?_
    refine a_if_eq C dL_switchOff_7 (tgt := 14) rfl (fun hz => ?_) (fun hz => ?_)
    · rw [show x_lz r = 0 from if_pos hz]
      refine a_lconst C dL_switchOff_14 rfl ?_
      refine a_last C dL_switchOff_15 ?_
      refine a_goto (C.sl _) dL_switchOff_16 (tgt := 22) rfl ?_
      refine a_iconst (C.sl _) dL_switchOff_22 rfl ?_
      refine a_widen (Nat.zero_le 1) (Nat.zero_le 6) ?_
      exact a_iretL (C.sl _) rfl hlocks hret dL_switchOff_23 (by decide) rfl
    · rw [show x_lz r = 1 from if_neg hz]
      refine a_lconst C dL_switchOff_10 rfl ?_
      refine a_goto C dL_switchOff_11 (tgt := 15) rfl ?_
      refine a_last C dL_switchOff_15 ?_
      refine a_goto (C.sl _) dL_switchOff_16 (tgt := 22) rfl ?_
      refine a_iconst (C.sl _) dL_switchOff_22 rfl ?_
      refine a_widen (Nat.zero_le 1) (Nat.zero_le 6) ?_
      exact a_iretL (C.sl _) rfl hlocks hret dL_switchOff_23 (by decide) rfl
  · obtain ⟨k, rfl⟩ : ∃ j, k = j + 1 := ⟨k - 1, by omega⟩
    rw [if_neg (by omega)]
    rcases k with _ | k
    · injection (show some "java/lang/IndexOutOfBoundsException" = some E from hE) with hE
      subst hE
      refine x_startH (hh := [(0, 16, 19, 21)]) (by decide) rfl rfl (Nat.le_of_ble_eq_true rfl) rfl ?_
      intro p e s m args below meth c C hret hlocks hT
      refine a_aload_n C dL_switchOff_0 2 rfl ?_
      refine a_iconst C dL_switchOff_1 rfl ?_
      refine a_aload_n C dL_switchOff_2 0 rfl ?_
      refine a_iload_n C dL_switchOff_3 1 rfl ?_
      refine a_callC C (k := 0) (As := [.int a]) (rest := [.int 0, .ref (x_b G + 183)]) (h G) (cwV 1 C.1.2.2.2.2 (gl_up gL_switchOff_X11_switchOff) rfl rfl rfl (by decide +kernel) ⟨by dsimp only [x_rm]; omega, by dsimp only [x_rm]; omega⟩) x_k0 (q := (RX11, TX11, 13)) rfl rfl rfl rfl (Nat.le_of_ble_eq_true rfl) dL_switchOff_4 ⟨Nat.le_of_ble_eq_true rfl, Nat.le_of_ble_eq_true rfl⟩ [] ⟨0, 16, 19, 21⟩ [] (hT.trans rfl) (fun z hz => absurd hz List.not_mem_nil) (by decide) (by decide) (List.mem_append_right _ (by decide +kernel)) (by decide +kernel) (fun w => ?_)
      refine a_astore_n C dL_switchOff_19 (Nat.le_of_ble_eq_true rfl) rfl ?_
      refine a_iconst C dL_switchOff_20 rfl ?_
      exact a_iretL C rfl hlocks hret dL_switchOff_21 (by decide) rfl
    · exact absurd (show none = some E from hE) (fun z => by cases z)
theorem w_streetOf (l : Launch) (G : xG) (d d1 : xd) (a : Int32) (k : Nat) (r : Int32) (h : y_C l yX11_streetOf wsX11_streetOf (fun G => [.ref (x_b G + 0), .int a]) ["java/lang/IndexOutOfBoundsException"] k (.int r) d d1) : x_ML G (if k = 0 then x_sl G r.toInt64 else G) l yL_streetOf (wsL_streetOf ++ ws_cl) 11 [.ref (x_b G + 0), .int a, .ref (x_b G + 183)] d (some (.int (nI k))) d1 := by
  obtain ⟨lv, hlv, ⟨rfl, h⟩ | ⟨E, h1, hE, h⟩⟩ := h
  · rw [if_pos rfl]
    refine x_startH (hh := [(0, 9, 12, 21)]) (by decide) rfl rfl (Nat.le_of_ble_eq_true rfl) rfl ?_
    intro p e s m args below meth c C hret hlocks hT
    refine a_aload_n C dL_streetOf_0 2 rfl ?_
    refine a_iconst C dL_streetOf_1 rfl ?_
    refine a_aload_n C dL_streetOf_2 0 rfl ?_
    refine a_iload_n C dL_streetOf_3 1 rfl ?_
    refine a_callV C (k := 0) (As := [.int a]) (rest := [.int 0, .ref (x_b G + 183)]) (h G) (cwV 1 C.1.2.2.2.2 (gl_up gL_streetOf_X11_streetOf) rfl rfl rfl (by decide +kernel) ⟨by dsimp only [x_rm]; omega, by dsimp only [x_rm]; omega⟩) x_k0 (q := (RX11, TX11, 13)) rfl rfl rfl rfl (Nat.le_of_ble_eq_true rfl) dL_streetOf_4 ⟨Nat.le_of_ble_eq_true rfl, Nat.le_of_ble_eq_true rfl⟩ ?_
    refine a_i2l C dL_streetOf_7 ?_
    refine a_last C dL_streetOf_8 ?_
    refine a_goto (C.sl _) dL_streetOf_9 (tgt := 15) rfl ?_
    refine a_iconst (C.sl _) dL_streetOf_15 rfl ?_
    refine a_widen (Nat.zero_le 1) (Nat.zero_le 6) ?_
    exact a_iretL (C.sl _) rfl hlocks hret dL_streetOf_16 (by decide) rfl
  · obtain ⟨k, rfl⟩ : ∃ j, k = j + 1 := ⟨k - 1, by omega⟩
    rw [if_neg (by omega)]
    rcases k with _ | k
    · injection (show some "java/lang/IndexOutOfBoundsException" = some E from hE) with hE
      subst hE
      refine x_startH (hh := [(0, 9, 12, 21)]) (by decide) rfl rfl (Nat.le_of_ble_eq_true rfl) rfl ?_
      intro p e s m args below meth c C hret hlocks hT
      refine a_aload_n C dL_streetOf_0 2 rfl ?_
      refine a_iconst C dL_streetOf_1 rfl ?_
      refine a_aload_n C dL_streetOf_2 0 rfl ?_
      refine a_iload_n C dL_streetOf_3 1 rfl ?_
      refine a_callC C (k := 0) (As := [.int a]) (rest := [.int 0, .ref (x_b G + 183)]) (h G) (cwV 1 C.1.2.2.2.2 (gl_up gL_streetOf_X11_streetOf) rfl rfl rfl (by decide +kernel) ⟨by dsimp only [x_rm]; omega, by dsimp only [x_rm]; omega⟩) x_k0 (q := (RX11, TX11, 13)) rfl rfl rfl rfl (Nat.le_of_ble_eq_true rfl) dL_streetOf_4 ⟨Nat.le_of_ble_eq_true rfl, Nat.le_of_ble_eq_true rfl⟩ [] ⟨0, 9, 12, 21⟩ [] (hT.trans rfl) (fun z hz => absurd hz List.not_mem_nil) (by decide) (by decide) (List.mem_append_right _ (by decide +kernel)) (by decide +kernel) (fun w => ?_)
      refine a_astore_n C dL_streetOf_12 (Nat.le_of_ble_eq_true rfl) rfl ?_
      refine a_iconst C dL_streetOf_13 rfl ?_
      exact a_iretL C rfl hlocks hret dL_streetOf_14 (by decide) rfl
    · exact absurd (show none = some E from hE) (fun z => by cases z)
theorem w_sharesOf (l : Launch) (G : xG) (d d1 : xd) (a : Int32) (k : Nat) (r : Int32) (h : y_C l yX11_sharesOf wsX11_sharesOf (fun G => [.ref (x_b G + 0), .int a]) ["java/lang/IndexOutOfBoundsException"] k (.int r) d d1) : x_ML G (if k = 0 then x_sl G r.toInt64 else G) l yL_sharesOf (wsL_sharesOf ++ ws_cl) 11 [.ref (x_b G + 0), .int a, .ref (x_b G + 183)] d (some (.int (nI k))) d1 := by
  obtain ⟨lv, hlv, ⟨rfl, h⟩ | ⟨E, h1, hE, h⟩⟩ := h
  · rw [if_pos rfl]
    refine x_startH (hh := [(0, 9, 12, 21)]) (by decide) rfl rfl (Nat.le_of_ble_eq_true rfl) rfl ?_
    intro p e s m args below meth c C hret hlocks hT
    refine a_aload_n C dL_sharesOf_0 2 rfl ?_
    refine a_iconst C dL_sharesOf_1 rfl ?_
    refine a_aload_n C dL_sharesOf_2 0 rfl ?_
    refine a_iload_n C dL_sharesOf_3 1 rfl ?_
    refine a_callV C (k := 0) (As := [.int a]) (rest := [.int 0, .ref (x_b G + 183)]) (h G) (cwV 1 C.1.2.2.2.2 (gl_up gL_sharesOf_X11_sharesOf) rfl rfl rfl (by decide +kernel) ⟨by dsimp only [x_rm]; omega, by dsimp only [x_rm]; omega⟩) x_k0 (q := (RX11, TX11, 13)) rfl rfl rfl rfl (Nat.le_of_ble_eq_true rfl) dL_sharesOf_4 ⟨Nat.le_of_ble_eq_true rfl, Nat.le_of_ble_eq_true rfl⟩ ?_
    refine a_i2l C dL_sharesOf_7 ?_
    refine a_last C dL_sharesOf_8 ?_
    refine a_goto (C.sl _) dL_sharesOf_9 (tgt := 15) rfl ?_
    refine a_iconst (C.sl _) dL_sharesOf_15 rfl ?_
    refine a_widen (Nat.zero_le 1) (Nat.zero_le 6) ?_
    exact a_iretL (C.sl _) rfl hlocks hret dL_sharesOf_16 (by decide) rfl
  · obtain ⟨k, rfl⟩ : ∃ j, k = j + 1 := ⟨k - 1, by omega⟩
    rw [if_neg (by omega)]
    rcases k with _ | k
    · injection (show some "java/lang/IndexOutOfBoundsException" = some E from hE) with hE
      subst hE
      refine x_startH (hh := [(0, 9, 12, 21)]) (by decide) rfl rfl (Nat.le_of_ble_eq_true rfl) rfl ?_
      intro p e s m args below meth c C hret hlocks hT
      refine a_aload_n C dL_sharesOf_0 2 rfl ?_
      refine a_iconst C dL_sharesOf_1 rfl ?_
      refine a_aload_n C dL_sharesOf_2 0 rfl ?_
      refine a_iload_n C dL_sharesOf_3 1 rfl ?_
      refine a_callC C (k := 0) (As := [.int a]) (rest := [.int 0, .ref (x_b G + 183)]) (h G) (cwV 1 C.1.2.2.2.2 (gl_up gL_sharesOf_X11_sharesOf) rfl rfl rfl (by decide +kernel) ⟨by dsimp only [x_rm]; omega, by dsimp only [x_rm]; omega⟩) x_k0 (q := (RX11, TX11, 13)) rfl rfl rfl rfl (Nat.le_of_ble_eq_true rfl) dL_sharesOf_4 ⟨Nat.le_of_ble_eq_true rfl, Nat.le_of_ble_eq_true rfl⟩ [] ⟨0, 9, 12, 21⟩ [] (hT.trans rfl) (fun z hz => absurd hz List.not_mem_nil) (by decide) (by decide) (List.mem_append_right _ (by decide +kernel)) (by decide +kernel) (fun w => ?_)
      refine a_astore_n C dL_sharesOf_12 (Nat.le_of_ble_eq_true rfl) rfl ?_
      refine a_iconst C dL_sharesOf_13 rfl ?_
      exact a_iretL C rfl hlocks hret dL_sharesOf_14 (by decide) rfl
    · exact absurd (show none = some E from hE) (fun z => by cases z)
theorem w_brightnessOf (l : Launch) (G : xG) (d d1 : xd) (a : Int32) (k : Nat) (r : Int32) (h : y_C l yX11_brightnessOf wsX11_brightnessOf (fun G => [.ref (x_b G + 0), .int a]) ["java/lang/IndexOutOfBoundsException"] k (.int r) d d1) : x_ML G (if k = 0 then x_sl G r.toInt64 else G) l yL_brightnessOf (wsL_brightnessOf ++ ws_cl) 11 [.ref (x_b G + 0), .int a, .ref (x_b G + 183)] d (some (.int (nI k))) d1 := by
  obtain ⟨lv, hlv, ⟨rfl, h⟩ | ⟨E, h1, hE, h⟩⟩ := h
  · rw [if_pos rfl]
    refine x_startH (hh := [(0, 9, 12, 21)]) (by decide) rfl rfl (Nat.le_of_ble_eq_true rfl) rfl ?_
    intro p e s m args below meth c C hret hlocks hT
    refine a_aload_n C dL_brightnessOf_0 2 rfl ?_
    refine a_iconst C dL_brightnessOf_1 rfl ?_
    refine a_aload_n C dL_brightnessOf_2 0 rfl ?_
    refine a_iload_n C dL_brightnessOf_3 1 rfl ?_
    refine a_callV C (k := 0) (As := [.int a]) (rest := [.int 0, .ref (x_b G + 183)]) (h G) (cwV 1 C.1.2.2.2.2 (gl_up gL_brightnessOf_X11_brightnessOf) rfl rfl rfl (by decide +kernel) ⟨by dsimp only [x_rm]; omega, by dsimp only [x_rm]; omega⟩) x_k0 (q := (RX11, TX11, 13)) rfl rfl rfl rfl (Nat.le_of_ble_eq_true rfl) dL_brightnessOf_4 ⟨Nat.le_of_ble_eq_true rfl, Nat.le_of_ble_eq_true rfl⟩ ?_
    refine a_i2l C dL_brightnessOf_7 ?_
    refine a_last C dL_brightnessOf_8 ?_
    refine a_goto (C.sl _) dL_brightnessOf_9 (tgt := 15) rfl ?_
    refine a_iconst (C.sl _) dL_brightnessOf_15 rfl ?_
    refine a_widen (Nat.zero_le 1) (Nat.zero_le 6) ?_
    exact a_iretL (C.sl _) rfl hlocks hret dL_brightnessOf_16 (by decide) rfl
  · obtain ⟨k, rfl⟩ : ∃ j, k = j + 1 := ⟨k - 1, by omega⟩
    rw [if_neg (by omega)]
    rcases k with _ | k
    · injection (show some "java/lang/IndexOutOfBoundsException" = some E from hE) with hE
      subst hE
      refine x_startH (hh := [(0, 9, 12, 21)]) (by decide) rfl rfl (Nat.le_of_ble_eq_true rfl) rfl ?_
      intro p e s m args below meth c C hret hlocks hT
      refine a_aload_n C dL_brightnessOf_0 2 rfl ?_
      refine a_iconst C dL_brightnessOf_1 rfl ?_
      refine a_aload_n C dL_brightnessOf_2 0 rfl ?_
      refine a_iload_n C dL_brightnessOf_3 1 rfl ?_
      refine a_callC C (k := 0) (As := [.int a]) (rest := [.int 0, .ref (x_b G + 183)]) (h G) (cwV 1 C.1.2.2.2.2 (gl_up gL_brightnessOf_X11_brightnessOf) rfl rfl rfl (by decide +kernel) ⟨by dsimp only [x_rm]; omega, by dsimp only [x_rm]; omega⟩) x_k0 (q := (RX11, TX11, 13)) rfl rfl rfl rfl (Nat.le_of_ble_eq_true rfl) dL_brightnessOf_4 ⟨Nat.le_of_ble_eq_true rfl, Nat.le_of_ble_eq_true rfl⟩ [] ⟨0, 9, 12, 21⟩ [] (hT.trans rfl) (fun z hz => absurd hz List.not_mem_nil) (by decide) (by decide) (List.mem_append_right _ (by decide +kernel)) (by decide +kernel) (fun w => ?_)
      refine a_astore_n C dL_brightnessOf_12 (Nat.le_of_ble_eq_true rfl) rfl ?_
      refine a_iconst C dL_brightnessOf_13 rfl ?_
      exact a_iretL C rfl hlocks hret dL_brightnessOf_14 (by decide) rfl
    · exact absurd (show none = some E from hE) (fun z => by cases z)
theorem w_isOn (l : Launch) (G : xG) (d d1 : xd) (a : Int32) (k : Nat) (r : Int32) (h : y_C l yX11_isOn wsX11_isOn (fun G => [.ref (x_b G + 0), .int a]) ["java/lang/IndexOutOfBoundsException"] k (.int r) d d1) : x_ML G (if k = 0 then x_sl G (x_lz r) else G) l yL_isOn (wsL_isOn ++ ws_cl) 11 [.ref (x_b G + 0), .int a, .ref (x_b G + 183)] d (some (.int (nI k))) d1 := by
  obtain ⟨lv, hlv, ⟨rfl, h⟩ | ⟨E, h1, hE, h⟩⟩ := h
  · rw [if_pos rfl]
    refine x_startH (hh := [(0, 16, 19, 21)]) (by decide) rfl rfl (Nat.le_of_ble_eq_true rfl) rfl ?_
    intro p e s m args below meth c C hret hlocks hT
    refine a_aload_n C dL_isOn_0 2 rfl ?_
    refine a_iconst C dL_isOn_1 rfl ?_
    refine a_aload_n C dL_isOn_2 0 rfl ?_
    refine a_iload_n C dL_isOn_3 1 rfl ?_
    refine a_callV C (k := 0) (As := [.int a]) (rest := [.int 0, .ref (x_b G + 183)]) (h G) (cwV 1 C.1.2.2.2.2 (gl_up gL_isOn_X11_isOn) rfl rfl rfl (by decide +kernel) ⟨by dsimp only [x_rm]; omega, by dsimp only [x_rm]; omega⟩) x_k0 (q := (RX11, TX11, 13)) rfl rfl rfl rfl (Nat.le_of_ble_eq_true rfl) dL_isOn_4 ⟨Nat.le_of_ble_eq_true rfl, Nat.le_of_ble_eq_true rfl⟩ ?_
    refine a_if_eq C dL_isOn_7 (tgt := 14) rfl (fun hz => ?_) (fun hz => ?_)
    · rw [show x_lz r = 0 from if_pos hz]
      refine a_lconst C dL_isOn_14 rfl ?_
      refine a_last C dL_isOn_15 ?_
      refine a_goto (C.sl _) dL_isOn_16 (tgt := 22) rfl ?_
      refine a_iconst (C.sl _) dL_isOn_22 rfl ?_
      refine a_widen (Nat.zero_le 1) (Nat.zero_le 6) ?_
      exact a_iretL (C.sl _) rfl hlocks hret dL_isOn_23 (by decide) rfl
    · rw [show x_lz r = 1 from if_neg hz]
      refine a_lconst C dL_isOn_10 rfl ?_
      refine a_goto C dL_isOn_11 (tgt := 15) rfl ?_
      refine a_last C dL_isOn_15 ?_
      refine a_goto (C.sl _) dL_isOn_16 (tgt := 22) rfl ?_
      refine a_iconst (C.sl _) dL_isOn_22 rfl ?_
      refine a_widen (Nat.zero_le 1) (Nat.zero_le 6) ?_
      exact a_iretL (C.sl _) rfl hlocks hret dL_isOn_23 (by decide) rfl
  · obtain ⟨k, rfl⟩ : ∃ j, k = j + 1 := ⟨k - 1, by omega⟩
    rw [if_neg (by omega)]
    rcases k with _ | k
    · injection (show some "java/lang/IndexOutOfBoundsException" = some E from hE) with hE
      subst hE
      refine x_startH (hh := [(0, 16, 19, 21)]) (by decide) rfl rfl (Nat.le_of_ble_eq_true rfl) rfl ?_
      intro p e s m args below meth c C hret hlocks hT
      refine a_aload_n C dL_isOn_0 2 rfl ?_
      refine a_iconst C dL_isOn_1 rfl ?_
      refine a_aload_n C dL_isOn_2 0 rfl ?_
      refine a_iload_n C dL_isOn_3 1 rfl ?_
      refine a_callC C (k := 0) (As := [.int a]) (rest := [.int 0, .ref (x_b G + 183)]) (h G) (cwV 1 C.1.2.2.2.2 (gl_up gL_isOn_X11_isOn) rfl rfl rfl (by decide +kernel) ⟨by dsimp only [x_rm]; omega, by dsimp only [x_rm]; omega⟩) x_k0 (q := (RX11, TX11, 13)) rfl rfl rfl rfl (Nat.le_of_ble_eq_true rfl) dL_isOn_4 ⟨Nat.le_of_ble_eq_true rfl, Nat.le_of_ble_eq_true rfl⟩ [] ⟨0, 16, 19, 21⟩ [] (hT.trans rfl) (fun z hz => absurd hz List.not_mem_nil) (by decide) (by decide) (List.mem_append_right _ (by decide +kernel)) (by decide +kernel) (fun w => ?_)
      refine a_astore_n C dL_isOn_19 (Nat.le_of_ble_eq_true rfl) rfl ?_
      refine a_iconst C dL_isOn_20 rfl ?_
      exact a_iretL C rfl hlocks hret dL_isOn_21 (by decide) rfl
    · exact absurd (show none = some E from hE) (fun z => by cases z)
theorem w_oilOf (l : Launch) (G : xG) (d d1 : xd) (a : Int32) (k : Nat) (r : Int32) (h : y_C l yX11_oilOf wsX11_oilOf (fun G => [.ref (x_b G + 0), .int a]) ["java/lang/IndexOutOfBoundsException"] k (.int r) d d1) : x_ML G (if k = 0 then x_sl G r.toInt64 else G) l yL_oilOf (wsL_oilOf ++ ws_cl) 11 [.ref (x_b G + 0), .int a, .ref (x_b G + 183)] d (some (.int (nI k))) d1 := by
  obtain ⟨lv, hlv, ⟨rfl, h⟩ | ⟨E, h1, hE, h⟩⟩ := h
  · rw [if_pos rfl]
    refine x_startH (hh := [(0, 9, 12, 21)]) (by decide) rfl rfl (Nat.le_of_ble_eq_true rfl) rfl ?_
    intro p e s m args below meth c C hret hlocks hT
    refine a_aload_n C dL_oilOf_0 2 rfl ?_
    refine a_iconst C dL_oilOf_1 rfl ?_
    refine a_aload_n C dL_oilOf_2 0 rfl ?_
    refine a_iload_n C dL_oilOf_3 1 rfl ?_
    refine a_callV C (k := 0) (As := [.int a]) (rest := [.int 0, .ref (x_b G + 183)]) (h G) (cwV 1 C.1.2.2.2.2 (gl_up gL_oilOf_X11_oilOf) rfl rfl rfl (by decide +kernel) ⟨by dsimp only [x_rm]; omega, by dsimp only [x_rm]; omega⟩) x_k0 (q := (RX11, TX11, 13)) rfl rfl rfl rfl (Nat.le_of_ble_eq_true rfl) dL_oilOf_4 ⟨Nat.le_of_ble_eq_true rfl, Nat.le_of_ble_eq_true rfl⟩ ?_
    refine a_i2l C dL_oilOf_7 ?_
    refine a_last C dL_oilOf_8 ?_
    refine a_goto (C.sl _) dL_oilOf_9 (tgt := 15) rfl ?_
    refine a_iconst (C.sl _) dL_oilOf_15 rfl ?_
    refine a_widen (Nat.zero_le 1) (Nat.zero_le 6) ?_
    exact a_iretL (C.sl _) rfl hlocks hret dL_oilOf_16 (by decide) rfl
  · obtain ⟨k, rfl⟩ : ∃ j, k = j + 1 := ⟨k - 1, by omega⟩
    rw [if_neg (by omega)]
    rcases k with _ | k
    · injection (show some "java/lang/IndexOutOfBoundsException" = some E from hE) with hE
      subst hE
      refine x_startH (hh := [(0, 9, 12, 21)]) (by decide) rfl rfl (Nat.le_of_ble_eq_true rfl) rfl ?_
      intro p e s m args below meth c C hret hlocks hT
      refine a_aload_n C dL_oilOf_0 2 rfl ?_
      refine a_iconst C dL_oilOf_1 rfl ?_
      refine a_aload_n C dL_oilOf_2 0 rfl ?_
      refine a_iload_n C dL_oilOf_3 1 rfl ?_
      refine a_callC C (k := 0) (As := [.int a]) (rest := [.int 0, .ref (x_b G + 183)]) (h G) (cwV 1 C.1.2.2.2.2 (gl_up gL_oilOf_X11_oilOf) rfl rfl rfl (by decide +kernel) ⟨by dsimp only [x_rm]; omega, by dsimp only [x_rm]; omega⟩) x_k0 (q := (RX11, TX11, 13)) rfl rfl rfl rfl (Nat.le_of_ble_eq_true rfl) dL_oilOf_4 ⟨Nat.le_of_ble_eq_true rfl, Nat.le_of_ble_eq_true rfl⟩ [] ⟨0, 9, 12, 21⟩ [] (hT.trans rfl) (fun z hz => absurd hz List.not_mem_nil) (by decide) (by decide) (List.mem_append_right _ (by decide +kernel)) (by decide +kernel) (fun w => ?_)
      refine a_astore_n C dL_oilOf_12 (Nat.le_of_ble_eq_true rfl) rfl ?_
      refine a_iconst C dL_oilOf_13 rfl ?_
      exact a_iretL C rfl hlocks hret dL_oilOf_14 (by decide) rfl
    · exact absurd (show none = some E from hE) (fun z => by cases z)
theorem w_wickOf (l : Launch) (G : xG) (d d1 : xd) (a : Int32) (k : Nat) (r : Int32) (h : y_C l yX11_wickOf wsX11_wickOf (fun G => [.ref (x_b G + 0), .int a]) ["java/lang/IndexOutOfBoundsException"] k (.int r) d d1) : x_ML G (if k = 0 then x_sl G r.toInt64 else G) l yL_wickOf (wsL_wickOf ++ ws_cl) 11 [.ref (x_b G + 0), .int a, .ref (x_b G + 183)] d (some (.int (nI k))) d1 := by
  obtain ⟨lv, hlv, ⟨rfl, h⟩ | ⟨E, h1, hE, h⟩⟩ := h
  · rw [if_pos rfl]
    refine x_startH (hh := [(0, 9, 12, 21)]) (by decide) rfl rfl (Nat.le_of_ble_eq_true rfl) rfl ?_
    intro p e s m args below meth c C hret hlocks hT
    refine a_aload_n C dL_wickOf_0 2 rfl ?_
    refine a_iconst C dL_wickOf_1 rfl ?_
    refine a_aload_n C dL_wickOf_2 0 rfl ?_
    refine a_iload_n C dL_wickOf_3 1 rfl ?_
    refine a_callV C (k := 0) (As := [.int a]) (rest := [.int 0, .ref (x_b G + 183)]) (h G) (cwV 1 C.1.2.2.2.2 (gl_up gL_wickOf_X11_wickOf) rfl rfl rfl (by decide +kernel) ⟨by dsimp only [x_rm]; omega, by dsimp only [x_rm]; omega⟩) x_k0 (q := (RX11, TX11, 13)) rfl rfl rfl rfl (Nat.le_of_ble_eq_true rfl) dL_wickOf_4 ⟨Nat.le_of_ble_eq_true rfl, Nat.le_of_ble_eq_true rfl⟩ ?_
    refine a_i2l C dL_wickOf_7 ?_
    refine a_last C dL_wickOf_8 ?_
    refine a_goto (C.sl _) dL_wickOf_9 (tgt := 15) rfl ?_
    refine a_iconst (C.sl _) dL_wickOf_15 rfl ?_
    refine a_widen (Nat.zero_le 1) (Nat.zero_le 6) ?_
    exact a_iretL (C.sl _) rfl hlocks hret dL_wickOf_16 (by decide) rfl
  · obtain ⟨k, rfl⟩ : ∃ j, k = j + 1 := ⟨k - 1, by omega⟩
    rw [if_neg (by omega)]
    rcases k with _ | k
    · injection (show some "java/lang/IndexOutOfBoundsException" = some E from hE) with hE
      subst hE
      refine x_startH (hh := [(0, 9, 12, 21)]) (by decide) rfl rfl (Nat.le_of_ble_eq_true rfl) rfl ?_
      intro p e s m args below meth c C hret hlocks hT
      refine a_aload_n C dL_wickOf_0 2 rfl ?_
      refine a_iconst C dL_wickOf_1 rfl ?_
      refine a_aload_n C dL_wickOf_2 0 rfl ?_
      refine a_iload_n C dL_wickOf_3 1 rfl ?_
      refine a_callC C (k := 0) (As := [.int a]) (rest := [.int 0, .ref (x_b G + 183)]) (h G) (cwV 1 C.1.2.2.2.2 (gl_up gL_wickOf_X11_wickOf) rfl rfl rfl (by decide +kernel) ⟨by dsimp only [x_rm]; omega, by dsimp only [x_rm]; omega⟩) x_k0 (q := (RX11, TX11, 13)) rfl rfl rfl rfl (Nat.le_of_ble_eq_true rfl) dL_wickOf_4 ⟨Nat.le_of_ble_eq_true rfl, Nat.le_of_ble_eq_true rfl⟩ [] ⟨0, 9, 12, 21⟩ [] (hT.trans rfl) (fun z hz => absurd hz List.not_mem_nil) (by decide) (by decide) (List.mem_append_right _ (by decide +kernel)) (by decide +kernel) (fun w => ?_)
      refine a_astore_n C dL_wickOf_12 (Nat.le_of_ble_eq_true rfl) rfl ?_
      refine a_iconst C dL_wickOf_13 rfl ?_
      exact a_iretL C rfl hlocks hret dL_wickOf_14 (by decide) rfl
    · exact absurd (show none = some E from hE) (fun z => by cases z)
theorem w_balanceOf (l : Launch) (G : xG) (d d1 : xd) (a : Int32) (k : Nat) (r : Int32) (h : y_C l yX11_balanceOf wsX11_balanceOf (fun G => [.ref (x_b G + 0), .int a]) ["java/lang/IndexOutOfBoundsException"] k (.int r) d d1) : x_ML G (if k = 0 then x_sl G r.toInt64 else G) l yL_balanceOf (wsL_balanceOf ++ ws_cl) 11 [.ref (x_b G + 0), .int a, .ref (x_b G + 183)] d (some (.int (nI k))) d1 := by
  obtain ⟨lv, hlv, ⟨rfl, h⟩ | ⟨E, h1, hE, h⟩⟩ := h
  · rw [if_pos rfl]
    refine x_startH (hh := [(0, 9, 12, 21)]) (by decide) rfl rfl (Nat.le_of_ble_eq_true rfl) rfl ?_
    intro p e s m args below meth c C hret hlocks hT
    refine a_aload_n C dL_balanceOf_0 2 rfl ?_
    refine a_iconst C dL_balanceOf_1 rfl ?_
    refine a_aload_n C dL_balanceOf_2 0 rfl ?_
    refine a_iload_n C dL_balanceOf_3 1 rfl ?_
    refine a_callV C (k := 0) (As := [.int a]) (rest := [.int 0, .ref (x_b G + 183)]) (h G) (cwV 1 C.1.2.2.2.2 (gl_up gL_balanceOf_X11_balanceOf) rfl rfl rfl (by decide +kernel) ⟨by dsimp only [x_rm]; omega, by dsimp only [x_rm]; omega⟩) x_k0 (q := (RX11, TX11, 13)) rfl rfl rfl rfl (Nat.le_of_ble_eq_true rfl) dL_balanceOf_4 ⟨Nat.le_of_ble_eq_true rfl, Nat.le_of_ble_eq_true rfl⟩ ?_
    refine a_i2l C dL_balanceOf_7 ?_
    refine a_last C dL_balanceOf_8 ?_
    refine a_goto (C.sl _) dL_balanceOf_9 (tgt := 15) rfl ?_
    refine a_iconst (C.sl _) dL_balanceOf_15 rfl ?_
    refine a_widen (Nat.zero_le 1) (Nat.zero_le 6) ?_
    exact a_iretL (C.sl _) rfl hlocks hret dL_balanceOf_16 (by decide) rfl
  · obtain ⟨k, rfl⟩ : ∃ j, k = j + 1 := ⟨k - 1, by omega⟩
    rw [if_neg (by omega)]
    rcases k with _ | k
    · injection (show some "java/lang/IndexOutOfBoundsException" = some E from hE) with hE
      subst hE
      refine x_startH (hh := [(0, 9, 12, 21)]) (by decide) rfl rfl (Nat.le_of_ble_eq_true rfl) rfl ?_
      intro p e s m args below meth c C hret hlocks hT
      refine a_aload_n C dL_balanceOf_0 2 rfl ?_
      refine a_iconst C dL_balanceOf_1 rfl ?_
      refine a_aload_n C dL_balanceOf_2 0 rfl ?_
      refine a_iload_n C dL_balanceOf_3 1 rfl ?_
      refine a_callC C (k := 0) (As := [.int a]) (rest := [.int 0, .ref (x_b G + 183)]) (h G) (cwV 1 C.1.2.2.2.2 (gl_up gL_balanceOf_X11_balanceOf) rfl rfl rfl (by decide +kernel) ⟨by dsimp only [x_rm]; omega, by dsimp only [x_rm]; omega⟩) x_k0 (q := (RX11, TX11, 13)) rfl rfl rfl rfl (Nat.le_of_ble_eq_true rfl) dL_balanceOf_4 ⟨Nat.le_of_ble_eq_true rfl, Nat.le_of_ble_eq_true rfl⟩ [] ⟨0, 9, 12, 21⟩ [] (hT.trans rfl) (fun z hz => absurd hz List.not_mem_nil) (by decide) (by decide) (List.mem_append_right _ (by decide +kernel)) (by decide +kernel) (fun w => ?_)
      refine a_astore_n C dL_balanceOf_12 (Nat.le_of_ble_eq_true rfl) rfl ?_
      refine a_iconst C dL_balanceOf_13 rfl ?_
      exact a_iretL C rfl hlocks hret dL_balanceOf_14 (by decide) rfl
    · exact absurd (show none = some E from hE) (fun z => by cases z)
theorem w_deliverOil (l : Launch) (G : xG) (d d1 : xd) (a : Int32) (k : Nat) (r : Int32) (h : y_C l yX11_deliverOil wsX11_deliverOil (fun G => [.ref (x_b G + 0), .int a]) ["java/lang/IllegalArgumentException", "java/lang/IllegalStateException"] k (.int r) d d1) : x_ML G (if k = 0 then x_sl G r.toInt64 else G) l yL_deliverOil (wsL_deliverOil ++ ws_cl) 11 [.ref (x_b G + 0), .int a, .ref (x_b G + 183)] d (some (.int (nI k))) d1 := by
  obtain ⟨lv, hlv, ⟨rfl, h⟩ | ⟨E, h1, hE, h⟩⟩ := h
  · rw [if_pos rfl]
    refine x_startH (hh := [(0, 9, 12, 13), (0, 9, 15, 15)]) (by decide) rfl rfl (Nat.le_of_ble_eq_true rfl) rfl ?_
    intro p e s m args below meth c C hret hlocks hT
    refine a_aload_n C dL_deliverOil_0 2 rfl ?_
    refine a_iconst C dL_deliverOil_1 rfl ?_
    refine a_aload_n C dL_deliverOil_2 0 rfl ?_
    refine a_iload_n C dL_deliverOil_3 1 rfl ?_
    refine a_callV C (k := 0) (As := [.int a]) (rest := [.int 0, .ref (x_b G + 183)]) (h G) (cwV 1 C.1.2.2.2.2 (gl_up gL_deliverOil_X11_deliverOil) rfl rfl rfl (by decide +kernel) ⟨by dsimp only [x_rm]; omega, by dsimp only [x_rm]; omega⟩) x_k0 (q := (RX11, TX11, 13)) rfl rfl rfl rfl (Nat.le_of_ble_eq_true rfl) dL_deliverOil_4 ⟨Nat.le_of_ble_eq_true rfl, Nat.le_of_ble_eq_true rfl⟩ ?_
    refine a_i2l C dL_deliverOil_7 ?_
    refine a_last C dL_deliverOil_8 ?_
    refine a_goto (C.sl _) dL_deliverOil_9 (tgt := 18) rfl ?_
    refine a_iconst (C.sl _) dL_deliverOil_18 rfl ?_
    refine a_widen (Nat.zero_le 1) (Nat.zero_le 6) ?_
    exact a_iretL (C.sl _) rfl hlocks hret dL_deliverOil_19 (by decide) rfl
  · obtain ⟨k, rfl⟩ : ∃ j, k = j + 1 := ⟨k - 1, by omega⟩
    rw [if_neg (by omega)]
    rcases k with _ | _ | k
    · injection (show some "java/lang/IllegalArgumentException" = some E from hE) with hE
      subst hE
      refine x_startH (hh := [(0, 9, 12, 13), (0, 9, 15, 15)]) (by decide) rfl rfl (Nat.le_of_ble_eq_true rfl) rfl ?_
      intro p e s m args below meth c C hret hlocks hT
      refine a_aload_n C dL_deliverOil_0 2 rfl ?_
      refine a_iconst C dL_deliverOil_1 rfl ?_
      refine a_aload_n C dL_deliverOil_2 0 rfl ?_
      refine a_iload_n C dL_deliverOil_3 1 rfl ?_
      refine a_callC C (k := 0) (As := [.int a]) (rest := [.int 0, .ref (x_b G + 183)]) (h G) (cwV 1 C.1.2.2.2.2 (gl_up gL_deliverOil_X11_deliverOil) rfl rfl rfl (by decide +kernel) ⟨by dsimp only [x_rm]; omega, by dsimp only [x_rm]; omega⟩) x_k0 (q := (RX11, TX11, 13)) rfl rfl rfl rfl (Nat.le_of_ble_eq_true rfl) dL_deliverOil_4 ⟨Nat.le_of_ble_eq_true rfl, Nat.le_of_ble_eq_true rfl⟩ [] ⟨0, 9, 12, 13⟩ [⟨0, 9, 15, 15⟩] (hT.trans rfl) (fun z hz => absurd hz List.not_mem_nil) (by decide) (by decide) (List.mem_append_right _ (by decide +kernel)) (by decide +kernel) (fun w => ?_)
      refine a_astore_n C dL_deliverOil_12 (Nat.le_of_ble_eq_true rfl) rfl ?_
      refine a_iconst C dL_deliverOil_13 rfl ?_
      exact a_iretL C rfl hlocks hret dL_deliverOil_14 (by decide) rfl
    · injection (show some "java/lang/IllegalStateException" = some E from hE) with hE
      subst hE
      refine x_startH (hh := [(0, 9, 12, 13), (0, 9, 15, 15)]) (by decide) rfl rfl (Nat.le_of_ble_eq_true rfl) rfl ?_
      intro p e s m args below meth c C hret hlocks hT
      refine a_aload_n C dL_deliverOil_0 2 rfl ?_
      refine a_iconst C dL_deliverOil_1 rfl ?_
      refine a_aload_n C dL_deliverOil_2 0 rfl ?_
      refine a_iload_n C dL_deliverOil_3 1 rfl ?_
      refine a_callC C (k := 0) (As := [.int a]) (rest := [.int 0, .ref (x_b G + 183)]) (h G) (cwV 1 C.1.2.2.2.2 (gl_up gL_deliverOil_X11_deliverOil) rfl rfl rfl (by decide +kernel) ⟨by dsimp only [x_rm]; omega, by dsimp only [x_rm]; omega⟩) x_k0 (q := (RX11, TX11, 13)) rfl rfl rfl rfl (Nat.le_of_ble_eq_true rfl) dL_deliverOil_4 ⟨Nat.le_of_ble_eq_true rfl, Nat.le_of_ble_eq_true rfl⟩ [⟨0, 9, 12, 13⟩] ⟨0, 9, 15, 15⟩ [] (hT.trans rfl) (fun z hz => by
        cases List.mem_singleton.mp hz
        exact ⟨by decide, "java/lang/IllegalArgumentException", List.mem_append_right _ (by decide +kernel), by decide +kernel⟩) (by decide) (by decide) (List.mem_append_right _ (by decide +kernel)) (by decide +kernel) (fun w => ?_)
      refine a_astore_n C dL_deliverOil_15 (Nat.le_of_ble_eq_true rfl) rfl ?_
      refine a_iconst C dL_deliverOil_16 rfl ?_
      exact a_iretL C rfl hlocks hret dL_deliverOil_17 (by decide) rfl
    · exact absurd (show none = some E from hE) (fun z => by cases z)
theorem w_buyOil (l : Launch) (G : xG) (d d1 : xd) (a b : Int32) (k : Nat) (r : Int32) (h : y_C l yX11_buyOil wsX11_buyOil (fun G => [.ref (x_b G + 0), .int a, .int b]) ["java/lang/IndexOutOfBoundsException", "java/lang/IllegalArgumentException", "java/lang/IllegalStateException"] k (.int r) d d1) : x_ML G (if k = 0 then x_sl G r.toInt64 else G) l yL_buyOil (wsL_buyOil ++ ws_cl) 11 [.ref (x_b G + 0), .int a, .int b, .ref (x_b G + 183)] d (some (.int (nI k))) d1 := by
  obtain ⟨lv, hlv, ⟨rfl, h⟩ | ⟨E, h1, hE, h⟩⟩ := h
  · rw [if_pos rfl]
    refine x_startH (hh := [(0, 10, 13, 21), (0, 10, 17, 13), (0, 10, 21, 15)]) (by decide) rfl rfl (Nat.le_of_ble_eq_true rfl) rfl ?_
    intro p e s m args below meth c C hret hlocks hT
    refine a_aload_n C dL_buyOil_0 3 rfl ?_
    refine a_iconst C dL_buyOil_1 rfl ?_
    refine a_aload_n C dL_buyOil_2 0 rfl ?_
    refine a_iload_n C dL_buyOil_3 1 rfl ?_
    refine a_iload_n C dL_buyOil_4 2 rfl ?_
    refine a_callV C (k := 0) (As := [.int a, .int b]) (rest := [.int 0, .ref (x_b G + 183)]) (h G) (cwV 2 C.1.2.2.2.2 (gl_up gL_buyOil_X11_buyOil) rfl rfl rfl (by decide +kernel) ⟨by dsimp only [x_rm]; omega, by dsimp only [x_rm]; omega⟩) x_k0 (q := (RX11, TX11, 13)) rfl rfl rfl rfl (Nat.le_of_ble_eq_true rfl) dL_buyOil_5 ⟨Nat.le_of_ble_eq_true rfl, Nat.le_of_ble_eq_true rfl⟩ ?_
    refine a_i2l C dL_buyOil_8 ?_
    refine a_last C dL_buyOil_9 ?_
    refine a_goto (C.sl _) dL_buyOil_10 (tgt := 25) rfl ?_
    refine a_iconst (C.sl _) dL_buyOil_25 rfl ?_
    refine a_widen (Nat.zero_le 1) (Nat.zero_le 6) ?_
    exact a_iretL (C.sl _) rfl hlocks hret dL_buyOil_26 (by decide) rfl
  · obtain ⟨k, rfl⟩ : ∃ j, k = j + 1 := ⟨k - 1, by omega⟩
    rw [if_neg (by omega)]
    rcases k with _ | _ | _ | k
    · injection (show some "java/lang/IndexOutOfBoundsException" = some E from hE) with hE
      subst hE
      refine x_startH (hh := [(0, 10, 13, 21), (0, 10, 17, 13), (0, 10, 21, 15)]) (by decide) rfl rfl (Nat.le_of_ble_eq_true rfl) rfl ?_
      intro p e s m args below meth c C hret hlocks hT
      refine a_aload_n C dL_buyOil_0 3 rfl ?_
      refine a_iconst C dL_buyOil_1 rfl ?_
      refine a_aload_n C dL_buyOil_2 0 rfl ?_
      refine a_iload_n C dL_buyOil_3 1 rfl ?_
      refine a_iload_n C dL_buyOil_4 2 rfl ?_
      refine a_callC C (k := 0) (As := [.int a, .int b]) (rest := [.int 0, .ref (x_b G + 183)]) (h G) (cwV 2 C.1.2.2.2.2 (gl_up gL_buyOil_X11_buyOil) rfl rfl rfl (by decide +kernel) ⟨by dsimp only [x_rm]; omega, by dsimp only [x_rm]; omega⟩) x_k0 (q := (RX11, TX11, 13)) rfl rfl rfl rfl (Nat.le_of_ble_eq_true rfl) dL_buyOil_5 ⟨Nat.le_of_ble_eq_true rfl, Nat.le_of_ble_eq_true rfl⟩ [] ⟨0, 10, 13, 21⟩ [⟨0, 10, 17, 13⟩, ⟨0, 10, 21, 15⟩] (hT.trans rfl) (fun z hz => absurd hz List.not_mem_nil) (by decide) (by decide) (List.mem_append_right _ (by decide +kernel)) (by decide +kernel) (fun w => ?_)
      refine a_astore C dL_buyOil_13 (Nat.le_of_ble_eq_true rfl) rfl ?_
      refine a_iconst C dL_buyOil_15 rfl ?_
      exact a_iretL C rfl hlocks hret dL_buyOil_16 (by decide) rfl
    · injection (show some "java/lang/IllegalArgumentException" = some E from hE) with hE
      subst hE
      refine x_startH (hh := [(0, 10, 13, 21), (0, 10, 17, 13), (0, 10, 21, 15)]) (by decide) rfl rfl (Nat.le_of_ble_eq_true rfl) rfl ?_
      intro p e s m args below meth c C hret hlocks hT
      refine a_aload_n C dL_buyOil_0 3 rfl ?_
      refine a_iconst C dL_buyOil_1 rfl ?_
      refine a_aload_n C dL_buyOil_2 0 rfl ?_
      refine a_iload_n C dL_buyOil_3 1 rfl ?_
      refine a_iload_n C dL_buyOil_4 2 rfl ?_
      refine a_callC C (k := 0) (As := [.int a, .int b]) (rest := [.int 0, .ref (x_b G + 183)]) (h G) (cwV 2 C.1.2.2.2.2 (gl_up gL_buyOil_X11_buyOil) rfl rfl rfl (by decide +kernel) ⟨by dsimp only [x_rm]; omega, by dsimp only [x_rm]; omega⟩) x_k0 (q := (RX11, TX11, 13)) rfl rfl rfl rfl (Nat.le_of_ble_eq_true rfl) dL_buyOil_5 ⟨Nat.le_of_ble_eq_true rfl, Nat.le_of_ble_eq_true rfl⟩ [⟨0, 10, 13, 21⟩] ⟨0, 10, 17, 13⟩ [⟨0, 10, 21, 15⟩] (hT.trans rfl) (fun z hz => by
        cases List.mem_singleton.mp hz
        exact ⟨by decide, "java/lang/IndexOutOfBoundsException", List.mem_append_right _ (by decide +kernel), by decide +kernel⟩) (by decide) (by decide) (List.mem_append_right _ (by decide +kernel)) (by decide +kernel) (fun w => ?_)
      refine a_astore C dL_buyOil_17 (Nat.le_of_ble_eq_true rfl) rfl ?_
      refine a_iconst C dL_buyOil_19 rfl ?_
      exact a_iretL C rfl hlocks hret dL_buyOil_20 (by decide) rfl
    · injection (show some "java/lang/IllegalStateException" = some E from hE) with hE
      subst hE
      refine x_startH (hh := [(0, 10, 13, 21), (0, 10, 17, 13), (0, 10, 21, 15)]) (by decide) rfl rfl (Nat.le_of_ble_eq_true rfl) rfl ?_
      intro p e s m args below meth c C hret hlocks hT
      refine a_aload_n C dL_buyOil_0 3 rfl ?_
      refine a_iconst C dL_buyOil_1 rfl ?_
      refine a_aload_n C dL_buyOil_2 0 rfl ?_
      refine a_iload_n C dL_buyOil_3 1 rfl ?_
      refine a_iload_n C dL_buyOil_4 2 rfl ?_
      refine a_callC C (k := 0) (As := [.int a, .int b]) (rest := [.int 0, .ref (x_b G + 183)]) (h G) (cwV 2 C.1.2.2.2.2 (gl_up gL_buyOil_X11_buyOil) rfl rfl rfl (by decide +kernel) ⟨by dsimp only [x_rm]; omega, by dsimp only [x_rm]; omega⟩) x_k0 (q := (RX11, TX11, 13)) rfl rfl rfl rfl (Nat.le_of_ble_eq_true rfl) dL_buyOil_5 ⟨Nat.le_of_ble_eq_true rfl, Nat.le_of_ble_eq_true rfl⟩ [⟨0, 10, 13, 21⟩, ⟨0, 10, 17, 13⟩] ⟨0, 10, 21, 15⟩ [] (hT.trans rfl) (fun z hz => by
        rcases List.mem_cons.mp hz with rfl | hz
        · exact ⟨by decide, "java/lang/IndexOutOfBoundsException", List.mem_append_right _ (by decide +kernel), by decide +kernel⟩
        · cases List.mem_singleton.mp hz
          exact ⟨by decide, "java/lang/IllegalArgumentException", List.mem_append_right _ (by decide +kernel), by decide +kernel⟩) (by decide) (by decide) (List.mem_append_right _ (by decide +kernel)) (by decide +kernel) (fun w => ?_)
      refine a_astore C dL_buyOil_21 (Nat.le_of_ble_eq_true rfl) rfl ?_
      refine a_iconst C dL_buyOil_23 rfl ?_
      exact a_iretL C rfl hlocks hret dL_buyOil_24 (by decide) rfl
    · exact absurd (show none = some E from hE) (fun z => by cases z)
theorem w_donateWicks (l : Launch) (G : xG) (d d1 : xd) (a : Int32) (k : Nat) (r : Int32) (h : y_C l yX11_donateWicks wsX11_donateWicks (fun G => [.ref (x_b G + 0), .int a]) ["java/lang/IllegalArgumentException", "java/lang/IllegalStateException"] k (.int r) d d1) : x_ML G (if k = 0 then x_sl G r.toInt64 else G) l yL_donateWicks (wsL_donateWicks ++ ws_cl) 11 [.ref (x_b G + 0), .int a, .ref (x_b G + 183)] d (some (.int (nI k))) d1 := by
  obtain ⟨lv, hlv, ⟨rfl, h⟩ | ⟨E, h1, hE, h⟩⟩ := h
  · rw [if_pos rfl]
    refine x_startH (hh := [(0, 9, 12, 13), (0, 9, 15, 15)]) (by decide) rfl rfl (Nat.le_of_ble_eq_true rfl) rfl ?_
    intro p e s m args below meth c C hret hlocks hT
    refine a_aload_n C dL_donateWicks_0 2 rfl ?_
    refine a_iconst C dL_donateWicks_1 rfl ?_
    refine a_aload_n C dL_donateWicks_2 0 rfl ?_
    refine a_iload_n C dL_donateWicks_3 1 rfl ?_
    refine a_callV C (k := 0) (As := [.int a]) (rest := [.int 0, .ref (x_b G + 183)]) (h G) (cwV 1 C.1.2.2.2.2 (gl_up gL_donateWicks_X11_donateWicks) rfl rfl rfl (by decide +kernel) ⟨by dsimp only [x_rm]; omega, by dsimp only [x_rm]; omega⟩) x_k0 (q := (RX11, TX11, 13)) rfl rfl rfl rfl (Nat.le_of_ble_eq_true rfl) dL_donateWicks_4 ⟨Nat.le_of_ble_eq_true rfl, Nat.le_of_ble_eq_true rfl⟩ ?_
    refine a_i2l C dL_donateWicks_7 ?_
    refine a_last C dL_donateWicks_8 ?_
    refine a_goto (C.sl _) dL_donateWicks_9 (tgt := 18) rfl ?_
    refine a_iconst (C.sl _) dL_donateWicks_18 rfl ?_
    refine a_widen (Nat.zero_le 1) (Nat.zero_le 6) ?_
    exact a_iretL (C.sl _) rfl hlocks hret dL_donateWicks_19 (by decide) rfl
  · obtain ⟨k, rfl⟩ : ∃ j, k = j + 1 := ⟨k - 1, by omega⟩
    rw [if_neg (by omega)]
    rcases k with _ | _ | k
    · injection (show some "java/lang/IllegalArgumentException" = some E from hE) with hE
      subst hE
      refine x_startH (hh := [(0, 9, 12, 13), (0, 9, 15, 15)]) (by decide) rfl rfl (Nat.le_of_ble_eq_true rfl) rfl ?_
      intro p e s m args below meth c C hret hlocks hT
      refine a_aload_n C dL_donateWicks_0 2 rfl ?_
      refine a_iconst C dL_donateWicks_1 rfl ?_
      refine a_aload_n C dL_donateWicks_2 0 rfl ?_
      refine a_iload_n C dL_donateWicks_3 1 rfl ?_
      refine a_callC C (k := 0) (As := [.int a]) (rest := [.int 0, .ref (x_b G + 183)]) (h G) (cwV 1 C.1.2.2.2.2 (gl_up gL_donateWicks_X11_donateWicks) rfl rfl rfl (by decide +kernel) ⟨by dsimp only [x_rm]; omega, by dsimp only [x_rm]; omega⟩) x_k0 (q := (RX11, TX11, 13)) rfl rfl rfl rfl (Nat.le_of_ble_eq_true rfl) dL_donateWicks_4 ⟨Nat.le_of_ble_eq_true rfl, Nat.le_of_ble_eq_true rfl⟩ [] ⟨0, 9, 12, 13⟩ [⟨0, 9, 15, 15⟩] (hT.trans rfl) (fun z hz => absurd hz List.not_mem_nil) (by decide) (by decide) (List.mem_append_right _ (by decide +kernel)) (by decide +kernel) (fun w => ?_)
      refine a_astore_n C dL_donateWicks_12 (Nat.le_of_ble_eq_true rfl) rfl ?_
      refine a_iconst C dL_donateWicks_13 rfl ?_
      exact a_iretL C rfl hlocks hret dL_donateWicks_14 (by decide) rfl
    · injection (show some "java/lang/IllegalStateException" = some E from hE) with hE
      subst hE
      refine x_startH (hh := [(0, 9, 12, 13), (0, 9, 15, 15)]) (by decide) rfl rfl (Nat.le_of_ble_eq_true rfl) rfl ?_
      intro p e s m args below meth c C hret hlocks hT
      refine a_aload_n C dL_donateWicks_0 2 rfl ?_
      refine a_iconst C dL_donateWicks_1 rfl ?_
      refine a_aload_n C dL_donateWicks_2 0 rfl ?_
      refine a_iload_n C dL_donateWicks_3 1 rfl ?_
      refine a_callC C (k := 0) (As := [.int a]) (rest := [.int 0, .ref (x_b G + 183)]) (h G) (cwV 1 C.1.2.2.2.2 (gl_up gL_donateWicks_X11_donateWicks) rfl rfl rfl (by decide +kernel) ⟨by dsimp only [x_rm]; omega, by dsimp only [x_rm]; omega⟩) x_k0 (q := (RX11, TX11, 13)) rfl rfl rfl rfl (Nat.le_of_ble_eq_true rfl) dL_donateWicks_4 ⟨Nat.le_of_ble_eq_true rfl, Nat.le_of_ble_eq_true rfl⟩ [⟨0, 9, 12, 13⟩] ⟨0, 9, 15, 15⟩ [] (hT.trans rfl) (fun z hz => by
        cases List.mem_singleton.mp hz
        exact ⟨by decide, "java/lang/IllegalArgumentException", List.mem_append_right _ (by decide +kernel), by decide +kernel⟩) (by decide) (by decide) (List.mem_append_right _ (by decide +kernel)) (by decide +kernel) (fun w => ?_)
      refine a_astore_n C dL_donateWicks_15 (Nat.le_of_ble_eq_true rfl) rfl ?_
      refine a_iconst C dL_donateWicks_16 rfl ?_
      exact a_iretL C rfl hlocks hret dL_donateWicks_17 (by decide) rfl
    · exact absurd (show none = some E from hE) (fun z => by cases z)
theorem w_giveWick (l : Launch) (G : xG) (d d1 : xd) (a b : Int32) (k : Nat) (r : Int32) (h : y_C l yX11_giveWick wsX11_giveWick (fun G => [.ref (x_b G + 0), .int a, .int b]) ["java/lang/IndexOutOfBoundsException", "java/lang/IllegalArgumentException", "java/lang/IllegalStateException"] k (.int r) d d1) : x_ML G (if k = 0 then x_sl G r.toInt64 else G) l yL_giveWick (wsL_giveWick ++ ws_cl) 11 [.ref (x_b G + 0), .int a, .int b, .ref (x_b G + 183)] d (some (.int (nI k))) d1 := by
  obtain ⟨lv, hlv, ⟨rfl, h⟩ | ⟨E, h1, hE, h⟩⟩ := h
  · rw [if_pos rfl]
    refine x_startH (hh := [(0, 10, 13, 21), (0, 10, 17, 13), (0, 10, 21, 15)]) (by decide) rfl rfl (Nat.le_of_ble_eq_true rfl) rfl ?_
    intro p e s m args below meth c C hret hlocks hT
    refine a_aload_n C dL_giveWick_0 3 rfl ?_
    refine a_iconst C dL_giveWick_1 rfl ?_
    refine a_aload_n C dL_giveWick_2 0 rfl ?_
    refine a_iload_n C dL_giveWick_3 1 rfl ?_
    refine a_iload_n C dL_giveWick_4 2 rfl ?_
    refine a_callV C (k := 0) (As := [.int a, .int b]) (rest := [.int 0, .ref (x_b G + 183)]) (h G) (cwV 2 C.1.2.2.2.2 (gl_up gL_giveWick_X11_giveWick) rfl rfl rfl (by decide +kernel) ⟨by dsimp only [x_rm]; omega, by dsimp only [x_rm]; omega⟩) x_k0 (q := (RX11, TX11, 13)) rfl rfl rfl rfl (Nat.le_of_ble_eq_true rfl) dL_giveWick_5 ⟨Nat.le_of_ble_eq_true rfl, Nat.le_of_ble_eq_true rfl⟩ ?_
    refine a_i2l C dL_giveWick_8 ?_
    refine a_last C dL_giveWick_9 ?_
    refine a_goto (C.sl _) dL_giveWick_10 (tgt := 25) rfl ?_
    refine a_iconst (C.sl _) dL_giveWick_25 rfl ?_
    refine a_widen (Nat.zero_le 1) (Nat.zero_le 6) ?_
    exact a_iretL (C.sl _) rfl hlocks hret dL_giveWick_26 (by decide) rfl
  · obtain ⟨k, rfl⟩ : ∃ j, k = j + 1 := ⟨k - 1, by omega⟩
    rw [if_neg (by omega)]
    rcases k with _ | _ | _ | k
    · injection (show some "java/lang/IndexOutOfBoundsException" = some E from hE) with hE
      subst hE
      refine x_startH (hh := [(0, 10, 13, 21), (0, 10, 17, 13), (0, 10, 21, 15)]) (by decide) rfl rfl (Nat.le_of_ble_eq_true rfl) rfl ?_
      intro p e s m args below meth c C hret hlocks hT
      refine a_aload_n C dL_giveWick_0 3 rfl ?_
      refine a_iconst C dL_giveWick_1 rfl ?_
      refine a_aload_n C dL_giveWick_2 0 rfl ?_
      refine a_iload_n C dL_giveWick_3 1 rfl ?_
      refine a_iload_n C dL_giveWick_4 2 rfl ?_
      refine a_callC C (k := 0) (As := [.int a, .int b]) (rest := [.int 0, .ref (x_b G + 183)]) (h G) (cwV 2 C.1.2.2.2.2 (gl_up gL_giveWick_X11_giveWick) rfl rfl rfl (by decide +kernel) ⟨by dsimp only [x_rm]; omega, by dsimp only [x_rm]; omega⟩) x_k0 (q := (RX11, TX11, 13)) rfl rfl rfl rfl (Nat.le_of_ble_eq_true rfl) dL_giveWick_5 ⟨Nat.le_of_ble_eq_true rfl, Nat.le_of_ble_eq_true rfl⟩ [] ⟨0, 10, 13, 21⟩ [⟨0, 10, 17, 13⟩, ⟨0, 10, 21, 15⟩] (hT.trans rfl) (fun z hz => absurd hz List.not_mem_nil) (by decide) (by decide) (List.mem_append_right _ (by decide +kernel)) (by decide +kernel) (fun w => ?_)
      refine a_astore C dL_giveWick_13 (Nat.le_of_ble_eq_true rfl) rfl ?_
      refine a_iconst C dL_giveWick_15 rfl ?_
      exact a_iretL C rfl hlocks hret dL_giveWick_16 (by decide) rfl
    · injection (show some "java/lang/IllegalArgumentException" = some E from hE) with hE
      subst hE
      refine x_startH (hh := [(0, 10, 13, 21), (0, 10, 17, 13), (0, 10, 21, 15)]) (by decide) rfl rfl (Nat.le_of_ble_eq_true rfl) rfl ?_
      intro p e s m args below meth c C hret hlocks hT
      refine a_aload_n C dL_giveWick_0 3 rfl ?_
      refine a_iconst C dL_giveWick_1 rfl ?_
      refine a_aload_n C dL_giveWick_2 0 rfl ?_
      refine a_iload_n C dL_giveWick_3 1 rfl ?_
      refine a_iload_n C dL_giveWick_4 2 rfl ?_
      refine a_callC C (k := 0) (As := [.int a, .int b]) (rest := [.int 0, .ref (x_b G + 183)]) (h G) (cwV 2 C.1.2.2.2.2 (gl_up gL_giveWick_X11_giveWick) rfl rfl rfl (by decide +kernel) ⟨by dsimp only [x_rm]; omega, by dsimp only [x_rm]; omega⟩) x_k0 (q := (RX11, TX11, 13)) rfl rfl rfl rfl (Nat.le_of_ble_eq_true rfl) dL_giveWick_5 ⟨Nat.le_of_ble_eq_true rfl, Nat.le_of_ble_eq_true rfl⟩ [⟨0, 10, 13, 21⟩] ⟨0, 10, 17, 13⟩ [⟨0, 10, 21, 15⟩] (hT.trans rfl) (fun z hz => by
        cases List.mem_singleton.mp hz
        exact ⟨by decide, "java/lang/IndexOutOfBoundsException", List.mem_append_right _ (by decide +kernel), by decide +kernel⟩) (by decide) (by decide) (List.mem_append_right _ (by decide +kernel)) (by decide +kernel) (fun w => ?_)
      refine a_astore C dL_giveWick_17 (Nat.le_of_ble_eq_true rfl) rfl ?_
      refine a_iconst C dL_giveWick_19 rfl ?_
      exact a_iretL C rfl hlocks hret dL_giveWick_20 (by decide) rfl
    · injection (show some "java/lang/IllegalStateException" = some E from hE) with hE
      subst hE
      refine x_startH (hh := [(0, 10, 13, 21), (0, 10, 17, 13), (0, 10, 21, 15)]) (by decide) rfl rfl (Nat.le_of_ble_eq_true rfl) rfl ?_
      intro p e s m args below meth c C hret hlocks hT
      refine a_aload_n C dL_giveWick_0 3 rfl ?_
      refine a_iconst C dL_giveWick_1 rfl ?_
      refine a_aload_n C dL_giveWick_2 0 rfl ?_
      refine a_iload_n C dL_giveWick_3 1 rfl ?_
      refine a_iload_n C dL_giveWick_4 2 rfl ?_
      refine a_callC C (k := 0) (As := [.int a, .int b]) (rest := [.int 0, .ref (x_b G + 183)]) (h G) (cwV 2 C.1.2.2.2.2 (gl_up gL_giveWick_X11_giveWick) rfl rfl rfl (by decide +kernel) ⟨by dsimp only [x_rm]; omega, by dsimp only [x_rm]; omega⟩) x_k0 (q := (RX11, TX11, 13)) rfl rfl rfl rfl (Nat.le_of_ble_eq_true rfl) dL_giveWick_5 ⟨Nat.le_of_ble_eq_true rfl, Nat.le_of_ble_eq_true rfl⟩ [⟨0, 10, 13, 21⟩, ⟨0, 10, 17, 13⟩] ⟨0, 10, 21, 15⟩ [] (hT.trans rfl) (fun z hz => by
        rcases List.mem_cons.mp hz with rfl | hz
        · exact ⟨by decide, "java/lang/IndexOutOfBoundsException", List.mem_append_right _ (by decide +kernel), by decide +kernel⟩
        · cases List.mem_singleton.mp hz
          exact ⟨by decide, "java/lang/IllegalArgumentException", List.mem_append_right _ (by decide +kernel), by decide +kernel⟩) (by decide) (by decide) (List.mem_append_right _ (by decide +kernel)) (by decide +kernel) (fun w => ?_)
      refine a_astore C dL_giveWick_21 (Nat.le_of_ble_eq_true rfl) rfl ?_
      refine a_iconst C dL_giveWick_23 rfl ?_
      exact a_iretL C rfl hlocks hret dL_giveWick_24 (by decide) rfl
    · exact absurd (show none = some E from hE) (fun z => by cases z)
theorem w_returnWick (l : Launch) (G : xG) (d d1 : xd) (a b : Int32) (k : Nat) (r : Int32) (h : y_C l yX11_returnWick wsX11_returnWick (fun G => [.ref (x_b G + 0), .int a, .int b]) ["java/lang/IndexOutOfBoundsException", "java/lang/IllegalArgumentException", "java/lang/IllegalStateException"] k (.int r) d d1) : x_ML G (if k = 0 then x_sl G r.toInt64 else G) l yL_returnWick (wsL_returnWick ++ ws_cl) 11 [.ref (x_b G + 0), .int a, .int b, .ref (x_b G + 183)] d (some (.int (nI k))) d1 := by
  obtain ⟨lv, hlv, ⟨rfl, h⟩ | ⟨E, h1, hE, h⟩⟩ := h
  · rw [if_pos rfl]
    refine x_startH (hh := [(0, 10, 13, 21), (0, 10, 17, 13), (0, 10, 21, 15)]) (by decide) rfl rfl (Nat.le_of_ble_eq_true rfl) rfl ?_
    intro p e s m args below meth c C hret hlocks hT
    refine a_aload_n C dL_returnWick_0 3 rfl ?_
    refine a_iconst C dL_returnWick_1 rfl ?_
    refine a_aload_n C dL_returnWick_2 0 rfl ?_
    refine a_iload_n C dL_returnWick_3 1 rfl ?_
    refine a_iload_n C dL_returnWick_4 2 rfl ?_
    refine a_callV C (k := 0) (As := [.int a, .int b]) (rest := [.int 0, .ref (x_b G + 183)]) (h G) (cwV 2 C.1.2.2.2.2 (gl_up gL_returnWick_X11_returnWick) rfl rfl rfl (by decide +kernel) ⟨by dsimp only [x_rm]; omega, by dsimp only [x_rm]; omega⟩) x_k0 (q := (RX11, TX11, 13)) rfl rfl rfl rfl (Nat.le_of_ble_eq_true rfl) dL_returnWick_5 ⟨Nat.le_of_ble_eq_true rfl, Nat.le_of_ble_eq_true rfl⟩ ?_
    refine a_i2l C dL_returnWick_8 ?_
    refine a_last C dL_returnWick_9 ?_
    refine a_goto (C.sl _) dL_returnWick_10 (tgt := 25) rfl ?_
    refine a_iconst (C.sl _) dL_returnWick_25 rfl ?_
    refine a_widen (Nat.zero_le 1) (Nat.zero_le 6) ?_
    exact a_iretL (C.sl _) rfl hlocks hret dL_returnWick_26 (by decide) rfl
  · obtain ⟨k, rfl⟩ : ∃ j, k = j + 1 := ⟨k - 1, by omega⟩
    rw [if_neg (by omega)]
    rcases k with _ | _ | _ | k
    · injection (show some "java/lang/IndexOutOfBoundsException" = some E from hE) with hE
      subst hE
      refine x_startH (hh := [(0, 10, 13, 21), (0, 10, 17, 13), (0, 10, 21, 15)]) (by decide) rfl rfl (Nat.le_of_ble_eq_true rfl) rfl ?_
      intro p e s m args below meth c C hret hlocks hT
      refine a_aload_n C dL_returnWick_0 3 rfl ?_
      refine a_iconst C dL_returnWick_1 rfl ?_
      refine a_aload_n C dL_returnWick_2 0 rfl ?_
      refine a_iload_n C dL_returnWick_3 1 rfl ?_
      refine a_iload_n C dL_returnWick_4 2 rfl ?_
      refine a_callC C (k := 0) (As := [.int a, .int b]) (rest := [.int 0, .ref (x_b G + 183)]) (h G) (cwV 2 C.1.2.2.2.2 (gl_up gL_returnWick_X11_returnWick) rfl rfl rfl (by decide +kernel) ⟨by dsimp only [x_rm]; omega, by dsimp only [x_rm]; omega⟩) x_k0 (q := (RX11, TX11, 13)) rfl rfl rfl rfl (Nat.le_of_ble_eq_true rfl) dL_returnWick_5 ⟨Nat.le_of_ble_eq_true rfl, Nat.le_of_ble_eq_true rfl⟩ [] ⟨0, 10, 13, 21⟩ [⟨0, 10, 17, 13⟩, ⟨0, 10, 21, 15⟩] (hT.trans rfl) (fun z hz => absurd hz List.not_mem_nil) (by decide) (by decide) (List.mem_append_right _ (by decide +kernel)) (by decide +kernel) (fun w => ?_)
      refine a_astore C dL_returnWick_13 (Nat.le_of_ble_eq_true rfl) rfl ?_
      refine a_iconst C dL_returnWick_15 rfl ?_
      exact a_iretL C rfl hlocks hret dL_returnWick_16 (by decide) rfl
    · injection (show some "java/lang/IllegalArgumentException" = some E from hE) with hE
      subst hE
      refine x_startH (hh := [(0, 10, 13, 21), (0, 10, 17, 13), (0, 10, 21, 15)]) (by decide) rfl rfl (Nat.le_of_ble_eq_true rfl) rfl ?_
      intro p e s m args below meth c C hret hlocks hT
      refine a_aload_n C dL_returnWick_0 3 rfl ?_
      refine a_iconst C dL_returnWick_1 rfl ?_
      refine a_aload_n C dL_returnWick_2 0 rfl ?_
      refine a_iload_n C dL_returnWick_3 1 rfl ?_
      refine a_iload_n C dL_returnWick_4 2 rfl ?_
      refine a_callC C (k := 0) (As := [.int a, .int b]) (rest := [.int 0, .ref (x_b G + 183)]) (h G) (cwV 2 C.1.2.2.2.2 (gl_up gL_returnWick_X11_returnWick) rfl rfl rfl (by decide +kernel) ⟨by dsimp only [x_rm]; omega, by dsimp only [x_rm]; omega⟩) x_k0 (q := (RX11, TX11, 13)) rfl rfl rfl rfl (Nat.le_of_ble_eq_true rfl) dL_returnWick_5 ⟨Nat.le_of_ble_eq_true rfl, Nat.le_of_ble_eq_true rfl⟩ [⟨0, 10, 13, 21⟩] ⟨0, 10, 17, 13⟩ [⟨0, 10, 21, 15⟩] (hT.trans rfl) (fun z hz => by
        cases List.mem_singleton.mp hz
        exact ⟨by decide, "java/lang/IndexOutOfBoundsException", List.mem_append_right _ (by decide +kernel), by decide +kernel⟩) (by decide) (by decide) (List.mem_append_right _ (by decide +kernel)) (by decide +kernel) (fun w => ?_)
      refine a_astore C dL_returnWick_17 (Nat.le_of_ble_eq_true rfl) rfl ?_
      refine a_iconst C dL_returnWick_19 rfl ?_
      exact a_iretL C rfl hlocks hret dL_returnWick_20 (by decide) rfl
    · injection (show some "java/lang/IllegalStateException" = some E from hE) with hE
      subst hE
      refine x_startH (hh := [(0, 10, 13, 21), (0, 10, 17, 13), (0, 10, 21, 15)]) (by decide) rfl rfl (Nat.le_of_ble_eq_true rfl) rfl ?_
      intro p e s m args below meth c C hret hlocks hT
      refine a_aload_n C dL_returnWick_0 3 rfl ?_
      refine a_iconst C dL_returnWick_1 rfl ?_
      refine a_aload_n C dL_returnWick_2 0 rfl ?_
      refine a_iload_n C dL_returnWick_3 1 rfl ?_
      refine a_iload_n C dL_returnWick_4 2 rfl ?_
      refine a_callC C (k := 0) (As := [.int a, .int b]) (rest := [.int 0, .ref (x_b G + 183)]) (h G) (cwV 2 C.1.2.2.2.2 (gl_up gL_returnWick_X11_returnWick) rfl rfl rfl (by decide +kernel) ⟨by dsimp only [x_rm]; omega, by dsimp only [x_rm]; omega⟩) x_k0 (q := (RX11, TX11, 13)) rfl rfl rfl rfl (Nat.le_of_ble_eq_true rfl) dL_returnWick_5 ⟨Nat.le_of_ble_eq_true rfl, Nat.le_of_ble_eq_true rfl⟩ [⟨0, 10, 13, 21⟩, ⟨0, 10, 17, 13⟩] ⟨0, 10, 21, 15⟩ [] (hT.trans rfl) (fun z hz => by
        rcases List.mem_cons.mp hz with rfl | hz
        · exact ⟨by decide, "java/lang/IndexOutOfBoundsException", List.mem_append_right _ (by decide +kernel), by decide +kernel⟩
        · cases List.mem_singleton.mp hz
          exact ⟨by decide, "java/lang/IllegalArgumentException", List.mem_append_right _ (by decide +kernel), by decide +kernel⟩) (by decide) (by decide) (List.mem_append_right _ (by decide +kernel)) (by decide +kernel) (fun w => ?_)
      refine a_astore C dL_returnWick_21 (Nat.le_of_ble_eq_true rfl) rfl ?_
      refine a_iconst C dL_returnWick_23 rfl ?_
      exact a_iretL C rfl hlocks hret dL_returnWick_24 (by decide) rfl
    · exact absurd (show none = some E from hE) (fun z => by cases z)
theorem w_payDividend (l : Launch) (G : xG) (d d1 : xd) (k : Nat) (r : Int32) (h : y_C l yX11_payDividend wsX11_payDividend (fun G => [.ref (x_b G + 0)]) ["java/lang/IllegalStateException"] k (.int r) d d1) : x_ML G (if k = 0 then x_sl G r.toInt64 else G) l yL_payDividend (wsL_payDividend ++ ws_cl) 11 [.ref (x_b G + 0), .ref (x_b G + 183)] d (some (.int (nI k))) d1 := by
  obtain ⟨lv, hlv, ⟨rfl, h⟩ | ⟨E, h1, hE, h⟩⟩ := h
  · rw [if_pos rfl]
    refine x_startH (hh := [(0, 8, 11, 15)]) (by decide) rfl rfl (Nat.le_of_ble_eq_true rfl) rfl ?_
    intro p e s m args below meth c C hret hlocks hT
    refine a_aload_n C dL_payDividend_0 1 rfl ?_
    refine a_iconst C dL_payDividend_1 rfl ?_
    refine a_aload_n C dL_payDividend_2 0 rfl ?_
    refine a_callV C (k := 0) (As := []) (rest := [.int 0, .ref (x_b G + 183)]) (h G) (cwV 0 C.1.2.2.2.2 (gl_up gL_payDividend_X11_payDividend) rfl rfl rfl (by decide +kernel) ⟨by dsimp only [x_rm]; omega, by dsimp only [x_rm]; omega⟩) x_k0 (q := (RX11, TX11, 13)) rfl rfl rfl rfl (Nat.le_of_ble_eq_true rfl) dL_payDividend_3 ⟨Nat.le_of_ble_eq_true rfl, Nat.le_of_ble_eq_true rfl⟩ ?_
    refine a_i2l C dL_payDividend_6 ?_
    refine a_last C dL_payDividend_7 ?_
    refine a_goto (C.sl _) dL_payDividend_8 (tgt := 14) rfl ?_
    refine a_iconst (C.sl _) dL_payDividend_14 rfl ?_
    refine a_widen (Nat.zero_le 1) (Nat.zero_le 6) ?_
    exact a_iretL (C.sl _) rfl hlocks hret dL_payDividend_15 (by decide) rfl
  · obtain ⟨k, rfl⟩ : ∃ j, k = j + 1 := ⟨k - 1, by omega⟩
    rw [if_neg (by omega)]
    rcases k with _ | k
    · injection (show some "java/lang/IllegalStateException" = some E from hE) with hE
      subst hE
      refine x_startH (hh := [(0, 8, 11, 15)]) (by decide) rfl rfl (Nat.le_of_ble_eq_true rfl) rfl ?_
      intro p e s m args below meth c C hret hlocks hT
      refine a_aload_n C dL_payDividend_0 1 rfl ?_
      refine a_iconst C dL_payDividend_1 rfl ?_
      refine a_aload_n C dL_payDividend_2 0 rfl ?_
      refine a_callC C (k := 0) (As := []) (rest := [.int 0, .ref (x_b G + 183)]) (h G) (cwV 0 C.1.2.2.2.2 (gl_up gL_payDividend_X11_payDividend) rfl rfl rfl (by decide +kernel) ⟨by dsimp only [x_rm]; omega, by dsimp only [x_rm]; omega⟩) x_k0 (q := (RX11, TX11, 13)) rfl rfl rfl rfl (Nat.le_of_ble_eq_true rfl) dL_payDividend_3 ⟨Nat.le_of_ble_eq_true rfl, Nat.le_of_ble_eq_true rfl⟩ [] ⟨0, 8, 11, 15⟩ [] (hT.trans rfl) (fun z hz => absurd hz List.not_mem_nil) (by decide) (by decide) (List.mem_append_right _ (by decide +kernel)) (by decide +kernel) (fun w => ?_)
      refine a_astore_n C dL_payDividend_11 (Nat.le_of_ble_eq_true rfl) rfl ?_
      refine a_iconst C dL_payDividend_12 rfl ?_
      exact a_iretL C rfl hlocks hret dL_payDividend_13 (by decide) rfl
    · exact absurd (show none = some E from hE) (fun z => by cases z)
theorem w_portionOf (l : Launch) (G : xG) (d d1 : xd) (a b : Int32) (k : Nat) (r : Int32) (h : y_C l yX11_portionOf wsX11_portionOf (fun G => [.ref (x_b G + 0), .int a, .int b]) ["java/lang/IndexOutOfBoundsException", "java/lang/IllegalArgumentException"] k (.int r) d d1) : x_ML G (if k = 0 then x_sl G r.toInt64 else G) l yL_portionOf (wsL_portionOf ++ ws_cl) 11 [.ref (x_b G + 0), .int a, .int b, .ref (x_b G + 183)] d (some (.int (nI k))) d1 := by
  obtain ⟨lv, hlv, ⟨rfl, h⟩ | ⟨E, h1, hE, h⟩⟩ := h
  · rw [if_pos rfl]
    refine x_startH (hh := [(0, 10, 13, 21), (0, 10, 17, 13)]) (by decide) rfl rfl (Nat.le_of_ble_eq_true rfl) rfl ?_
    intro p e s m args below meth c C hret hlocks hT
    refine a_aload_n C dL_portionOf_0 3 rfl ?_
    refine a_iconst C dL_portionOf_1 rfl ?_
    refine a_aload_n C dL_portionOf_2 0 rfl ?_
    refine a_iload_n C dL_portionOf_3 1 rfl ?_
    refine a_iload_n C dL_portionOf_4 2 rfl ?_
    refine a_callV C (k := 0) (As := [.int a, .int b]) (rest := [.int 0, .ref (x_b G + 183)]) (h G) (cwV 2 C.1.2.2.2.2 (gl_up gL_portionOf_X11_portionOf) rfl rfl rfl (by decide +kernel) ⟨by dsimp only [x_rm]; omega, by dsimp only [x_rm]; omega⟩) x_k0 (q := (RX11, TX11, 13)) rfl rfl rfl rfl (Nat.le_of_ble_eq_true rfl) dL_portionOf_5 ⟨Nat.le_of_ble_eq_true rfl, Nat.le_of_ble_eq_true rfl⟩ ?_
    refine a_i2l C dL_portionOf_8 ?_
    refine a_last C dL_portionOf_9 ?_
    refine a_goto (C.sl _) dL_portionOf_10 (tgt := 21) rfl ?_
    refine a_iconst (C.sl _) dL_portionOf_21 rfl ?_
    refine a_widen (Nat.zero_le 1) (Nat.zero_le 6) ?_
    exact a_iretL (C.sl _) rfl hlocks hret dL_portionOf_22 (by decide) rfl
  · obtain ⟨k, rfl⟩ : ∃ j, k = j + 1 := ⟨k - 1, by omega⟩
    rw [if_neg (by omega)]
    rcases k with _ | _ | k
    · injection (show some "java/lang/IndexOutOfBoundsException" = some E from hE) with hE
      subst hE
      refine x_startH (hh := [(0, 10, 13, 21), (0, 10, 17, 13)]) (by decide) rfl rfl (Nat.le_of_ble_eq_true rfl) rfl ?_
      intro p e s m args below meth c C hret hlocks hT
      refine a_aload_n C dL_portionOf_0 3 rfl ?_
      refine a_iconst C dL_portionOf_1 rfl ?_
      refine a_aload_n C dL_portionOf_2 0 rfl ?_
      refine a_iload_n C dL_portionOf_3 1 rfl ?_
      refine a_iload_n C dL_portionOf_4 2 rfl ?_
      refine a_callC C (k := 0) (As := [.int a, .int b]) (rest := [.int 0, .ref (x_b G + 183)]) (h G) (cwV 2 C.1.2.2.2.2 (gl_up gL_portionOf_X11_portionOf) rfl rfl rfl (by decide +kernel) ⟨by dsimp only [x_rm]; omega, by dsimp only [x_rm]; omega⟩) x_k0 (q := (RX11, TX11, 13)) rfl rfl rfl rfl (Nat.le_of_ble_eq_true rfl) dL_portionOf_5 ⟨Nat.le_of_ble_eq_true rfl, Nat.le_of_ble_eq_true rfl⟩ [] ⟨0, 10, 13, 21⟩ [⟨0, 10, 17, 13⟩] (hT.trans rfl) (fun z hz => absurd hz List.not_mem_nil) (by decide) (by decide) (List.mem_append_right _ (by decide +kernel)) (by decide +kernel) (fun w => ?_)
      refine a_astore C dL_portionOf_13 (Nat.le_of_ble_eq_true rfl) rfl ?_
      refine a_iconst C dL_portionOf_15 rfl ?_
      exact a_iretL C rfl hlocks hret dL_portionOf_16 (by decide) rfl
    · injection (show some "java/lang/IllegalArgumentException" = some E from hE) with hE
      subst hE
      refine x_startH (hh := [(0, 10, 13, 21), (0, 10, 17, 13)]) (by decide) rfl rfl (Nat.le_of_ble_eq_true rfl) rfl ?_
      intro p e s m args below meth c C hret hlocks hT
      refine a_aload_n C dL_portionOf_0 3 rfl ?_
      refine a_iconst C dL_portionOf_1 rfl ?_
      refine a_aload_n C dL_portionOf_2 0 rfl ?_
      refine a_iload_n C dL_portionOf_3 1 rfl ?_
      refine a_iload_n C dL_portionOf_4 2 rfl ?_
      refine a_callC C (k := 0) (As := [.int a, .int b]) (rest := [.int 0, .ref (x_b G + 183)]) (h G) (cwV 2 C.1.2.2.2.2 (gl_up gL_portionOf_X11_portionOf) rfl rfl rfl (by decide +kernel) ⟨by dsimp only [x_rm]; omega, by dsimp only [x_rm]; omega⟩) x_k0 (q := (RX11, TX11, 13)) rfl rfl rfl rfl (Nat.le_of_ble_eq_true rfl) dL_portionOf_5 ⟨Nat.le_of_ble_eq_true rfl, Nat.le_of_ble_eq_true rfl⟩ [⟨0, 10, 13, 21⟩] ⟨0, 10, 17, 13⟩ [] (hT.trans rfl) (fun z hz => by
        cases List.mem_singleton.mp hz
        exact ⟨by decide, "java/lang/IndexOutOfBoundsException", List.mem_append_right _ (by decide +kernel), by decide +kernel⟩) (by decide) (by decide) (List.mem_append_right _ (by decide +kernel)) (by decide +kernel) (fun w => ?_)
      refine a_astore C dL_portionOf_17 (Nat.le_of_ble_eq_true rfl) rfl ?_
      refine a_iconst C dL_portionOf_19 rfl ?_
      exact a_iretL C rfl hlocks hret dL_portionOf_20 (by decide) rfl
    · exact absurd (show none = some E from hE) (fun z => by cases z)
theorem w_portionByRounds (l : Launch) (G : xG) (d d1 : xd) (a b : Int32) (k : Nat) (r : Int32) (h : y_C l yX11_portionByRounds wsX11_portionByRounds (fun G => [.ref (x_b G + 0), .int a, .int b]) ["java/lang/IndexOutOfBoundsException", "java/lang/IllegalArgumentException"] k (.int r) d d1) : x_ML G (if k = 0 then x_sl G r.toInt64 else G) l yL_portionByRounds (wsL_portionByRounds ++ ws_cl) 11 [.ref (x_b G + 0), .int a, .int b, .ref (x_b G + 183)] d (some (.int (nI k))) d1 := by
  obtain ⟨lv, hlv, ⟨rfl, h⟩ | ⟨E, h1, hE, h⟩⟩ := h
  · rw [if_pos rfl]
    refine x_startH (hh := [(0, 10, 13, 21), (0, 10, 17, 13)]) (by decide) rfl rfl (Nat.le_of_ble_eq_true rfl) rfl ?_
    intro p e s m args below meth c C hret hlocks hT
    refine a_aload_n C dL_portionByRounds_0 3 rfl ?_
    refine a_iconst C dL_portionByRounds_1 rfl ?_
    refine a_aload_n C dL_portionByRounds_2 0 rfl ?_
    refine a_iload_n C dL_portionByRounds_3 1 rfl ?_
    refine a_iload_n C dL_portionByRounds_4 2 rfl ?_
    refine a_callV C (k := 0) (As := [.int a, .int b]) (rest := [.int 0, .ref (x_b G + 183)]) (h G) (cwV 2 C.1.2.2.2.2 (gl_up gL_portionByRounds_X11_portionByRounds) rfl rfl rfl (by decide +kernel) ⟨by dsimp only [x_rm]; omega, by dsimp only [x_rm]; omega⟩) x_k0 (q := (RX11, TX11, 13)) rfl rfl rfl rfl (Nat.le_of_ble_eq_true rfl) dL_portionByRounds_5 ⟨Nat.le_of_ble_eq_true rfl, Nat.le_of_ble_eq_true rfl⟩ ?_
    refine a_i2l C dL_portionByRounds_8 ?_
    refine a_last C dL_portionByRounds_9 ?_
    refine a_goto (C.sl _) dL_portionByRounds_10 (tgt := 21) rfl ?_
    refine a_iconst (C.sl _) dL_portionByRounds_21 rfl ?_
    refine a_widen (Nat.zero_le 1) (Nat.zero_le 6) ?_
    exact a_iretL (C.sl _) rfl hlocks hret dL_portionByRounds_22 (by decide) rfl
  · obtain ⟨k, rfl⟩ : ∃ j, k = j + 1 := ⟨k - 1, by omega⟩
    rw [if_neg (by omega)]
    rcases k with _ | _ | k
    · injection (show some "java/lang/IndexOutOfBoundsException" = some E from hE) with hE
      subst hE
      refine x_startH (hh := [(0, 10, 13, 21), (0, 10, 17, 13)]) (by decide) rfl rfl (Nat.le_of_ble_eq_true rfl) rfl ?_
      intro p e s m args below meth c C hret hlocks hT
      refine a_aload_n C dL_portionByRounds_0 3 rfl ?_
      refine a_iconst C dL_portionByRounds_1 rfl ?_
      refine a_aload_n C dL_portionByRounds_2 0 rfl ?_
      refine a_iload_n C dL_portionByRounds_3 1 rfl ?_
      refine a_iload_n C dL_portionByRounds_4 2 rfl ?_
      refine a_callC C (k := 0) (As := [.int a, .int b]) (rest := [.int 0, .ref (x_b G + 183)]) (h G) (cwV 2 C.1.2.2.2.2 (gl_up gL_portionByRounds_X11_portionByRounds) rfl rfl rfl (by decide +kernel) ⟨by dsimp only [x_rm]; omega, by dsimp only [x_rm]; omega⟩) x_k0 (q := (RX11, TX11, 13)) rfl rfl rfl rfl (Nat.le_of_ble_eq_true rfl) dL_portionByRounds_5 ⟨Nat.le_of_ble_eq_true rfl, Nat.le_of_ble_eq_true rfl⟩ [] ⟨0, 10, 13, 21⟩ [⟨0, 10, 17, 13⟩] (hT.trans rfl) (fun z hz => absurd hz List.not_mem_nil) (by decide) (by decide) (List.mem_append_right _ (by decide +kernel)) (by decide +kernel) (fun w => ?_)
      refine a_astore C dL_portionByRounds_13 (Nat.le_of_ble_eq_true rfl) rfl ?_
      refine a_iconst C dL_portionByRounds_15 rfl ?_
      exact a_iretL C rfl hlocks hret dL_portionByRounds_16 (by decide) rfl
    · injection (show some "java/lang/IllegalArgumentException" = some E from hE) with hE
      subst hE
      refine x_startH (hh := [(0, 10, 13, 21), (0, 10, 17, 13)]) (by decide) rfl rfl (Nat.le_of_ble_eq_true rfl) rfl ?_
      intro p e s m args below meth c C hret hlocks hT
      refine a_aload_n C dL_portionByRounds_0 3 rfl ?_
      refine a_iconst C dL_portionByRounds_1 rfl ?_
      refine a_aload_n C dL_portionByRounds_2 0 rfl ?_
      refine a_iload_n C dL_portionByRounds_3 1 rfl ?_
      refine a_iload_n C dL_portionByRounds_4 2 rfl ?_
      refine a_callC C (k := 0) (As := [.int a, .int b]) (rest := [.int 0, .ref (x_b G + 183)]) (h G) (cwV 2 C.1.2.2.2.2 (gl_up gL_portionByRounds_X11_portionByRounds) rfl rfl rfl (by decide +kernel) ⟨by dsimp only [x_rm]; omega, by dsimp only [x_rm]; omega⟩) x_k0 (q := (RX11, TX11, 13)) rfl rfl rfl rfl (Nat.le_of_ble_eq_true rfl) dL_portionByRounds_5 ⟨Nat.le_of_ble_eq_true rfl, Nat.le_of_ble_eq_true rfl⟩ [⟨0, 10, 13, 21⟩] ⟨0, 10, 17, 13⟩ [] (hT.trans rfl) (fun z hz => by
        cases List.mem_singleton.mp hz
        exact ⟨by decide, "java/lang/IndexOutOfBoundsException", List.mem_append_right _ (by decide +kernel), by decide +kernel⟩) (by decide) (by decide) (List.mem_append_right _ (by decide +kernel)) (by decide +kernel) (fun w => ?_)
      refine a_astore C dL_portionByRounds_17 (Nat.le_of_ble_eq_true rfl) rfl ?_
      refine a_iconst C dL_portionByRounds_19 rfl ?_
      exact a_iretL C rfl hlocks hret dL_portionByRounds_20 (by decide) rfl
    · exact absurd (show none = some E from hE) (fun z => by cases z)
theorem w_addMoth (l : Launch) (G : xG) (d d1 : xd) (a : Int32) (k : Nat) (r : Int32) (h : y_C l yX11_addMoth wsX11_addMoth (fun G => [.ref (x_b G + 0), .int a]) ["java/lang/IndexOutOfBoundsException", "java/lang/IllegalStateException"] k (.int r) d d1) : x_ML G (if k = 0 then x_sl G r.toInt64 else G) l yL_addMoth (wsL_addMoth ++ ws_cl) 11 [.ref (x_b G + 0), .int a, .ref (x_b G + 183)] d (some (.int (nI k))) d1 := by
  obtain ⟨lv, hlv, ⟨rfl, h⟩ | ⟨E, h1, hE, h⟩⟩ := h
  · rw [if_pos rfl]
    refine x_startH (hh := [(0, 9, 12, 21), (0, 9, 15, 15)]) (by decide) rfl rfl (Nat.le_of_ble_eq_true rfl) rfl ?_
    intro p e s m args below meth c C hret hlocks hT
    refine a_aload_n C dL_addMoth_0 2 rfl ?_
    refine a_iconst C dL_addMoth_1 rfl ?_
    refine a_aload_n C dL_addMoth_2 0 rfl ?_
    refine a_iload_n C dL_addMoth_3 1 rfl ?_
    refine a_callV C (k := 0) (As := [.int a]) (rest := [.int 0, .ref (x_b G + 183)]) (h G) (cwV 1 C.1.2.2.2.2 (gl_up gL_addMoth_X11_addMoth) rfl rfl rfl (by decide +kernel) ⟨by dsimp only [x_rm]; omega, by dsimp only [x_rm]; omega⟩) x_k0 (q := (RX11, TX11, 13)) rfl rfl rfl rfl (Nat.le_of_ble_eq_true rfl) dL_addMoth_4 ⟨Nat.le_of_ble_eq_true rfl, Nat.le_of_ble_eq_true rfl⟩ ?_
    refine a_i2l C dL_addMoth_7 ?_
    refine a_last C dL_addMoth_8 ?_
    refine a_goto (C.sl _) dL_addMoth_9 (tgt := 18) rfl ?_
    refine a_iconst (C.sl _) dL_addMoth_18 rfl ?_
    refine a_widen (Nat.zero_le 1) (Nat.zero_le 6) ?_
    exact a_iretL (C.sl _) rfl hlocks hret dL_addMoth_19 (by decide) rfl
  · obtain ⟨k, rfl⟩ : ∃ j, k = j + 1 := ⟨k - 1, by omega⟩
    rw [if_neg (by omega)]
    rcases k with _ | _ | k
    · injection (show some "java/lang/IndexOutOfBoundsException" = some E from hE) with hE
      subst hE
      refine x_startH (hh := [(0, 9, 12, 21), (0, 9, 15, 15)]) (by decide) rfl rfl (Nat.le_of_ble_eq_true rfl) rfl ?_
      intro p e s m args below meth c C hret hlocks hT
      refine a_aload_n C dL_addMoth_0 2 rfl ?_
      refine a_iconst C dL_addMoth_1 rfl ?_
      refine a_aload_n C dL_addMoth_2 0 rfl ?_
      refine a_iload_n C dL_addMoth_3 1 rfl ?_
      refine a_callC C (k := 0) (As := [.int a]) (rest := [.int 0, .ref (x_b G + 183)]) (h G) (cwV 1 C.1.2.2.2.2 (gl_up gL_addMoth_X11_addMoth) rfl rfl rfl (by decide +kernel) ⟨by dsimp only [x_rm]; omega, by dsimp only [x_rm]; omega⟩) x_k0 (q := (RX11, TX11, 13)) rfl rfl rfl rfl (Nat.le_of_ble_eq_true rfl) dL_addMoth_4 ⟨Nat.le_of_ble_eq_true rfl, Nat.le_of_ble_eq_true rfl⟩ [] ⟨0, 9, 12, 21⟩ [⟨0, 9, 15, 15⟩] (hT.trans rfl) (fun z hz => absurd hz List.not_mem_nil) (by decide) (by decide) (List.mem_append_right _ (by decide +kernel)) (by decide +kernel) (fun w => ?_)
      refine a_astore_n C dL_addMoth_12 (Nat.le_of_ble_eq_true rfl) rfl ?_
      refine a_iconst C dL_addMoth_13 rfl ?_
      exact a_iretL C rfl hlocks hret dL_addMoth_14 (by decide) rfl
    · injection (show some "java/lang/IllegalStateException" = some E from hE) with hE
      subst hE
      refine x_startH (hh := [(0, 9, 12, 21), (0, 9, 15, 15)]) (by decide) rfl rfl (Nat.le_of_ble_eq_true rfl) rfl ?_
      intro p e s m args below meth c C hret hlocks hT
      refine a_aload_n C dL_addMoth_0 2 rfl ?_
      refine a_iconst C dL_addMoth_1 rfl ?_
      refine a_aload_n C dL_addMoth_2 0 rfl ?_
      refine a_iload_n C dL_addMoth_3 1 rfl ?_
      refine a_callC C (k := 0) (As := [.int a]) (rest := [.int 0, .ref (x_b G + 183)]) (h G) (cwV 1 C.1.2.2.2.2 (gl_up gL_addMoth_X11_addMoth) rfl rfl rfl (by decide +kernel) ⟨by dsimp only [x_rm]; omega, by dsimp only [x_rm]; omega⟩) x_k0 (q := (RX11, TX11, 13)) rfl rfl rfl rfl (Nat.le_of_ble_eq_true rfl) dL_addMoth_4 ⟨Nat.le_of_ble_eq_true rfl, Nat.le_of_ble_eq_true rfl⟩ [⟨0, 9, 12, 21⟩] ⟨0, 9, 15, 15⟩ [] (hT.trans rfl) (fun z hz => by
        cases List.mem_singleton.mp hz
        exact ⟨by decide, "java/lang/IndexOutOfBoundsException", List.mem_append_right _ (by decide +kernel), by decide +kernel⟩) (by decide) (by decide) (List.mem_append_right _ (by decide +kernel)) (by decide +kernel) (fun w => ?_)
      refine a_astore_n C dL_addMoth_15 (Nat.le_of_ble_eq_true rfl) rfl ?_
      refine a_iconst C dL_addMoth_16 rfl ?_
      exact a_iretL C rfl hlocks hret dL_addMoth_17 (by decide) rfl
    · exact absurd (show none = some E from hE) (fun z => by cases z)
theorem w_moveMoth (l : Launch) (G : xG) (d d1 : xd) (a b : Int32) (k : Nat) (r : Int32) (h : y_C l yX11_moveMoth wsX11_moveMoth (fun G => [.ref (x_b G + 0), .int a, .int b]) ["java/lang/IndexOutOfBoundsException"] k (.int r) d d1) : x_ML G (if k = 0 then x_sl G r.toInt64 else G) l yL_moveMoth (wsL_moveMoth ++ ws_cl) 11 [.ref (x_b G + 0), .int a, .int b, .ref (x_b G + 183)] d (some (.int (nI k))) d1 := by
  obtain ⟨lv, hlv, ⟨rfl, h⟩ | ⟨E, h1, hE, h⟩⟩ := h
  · rw [if_pos rfl]
    refine x_startH (hh := [(0, 10, 13, 21)]) (by decide) rfl rfl (Nat.le_of_ble_eq_true rfl) rfl ?_
    intro p e s m args below meth c C hret hlocks hT
    refine a_aload_n C dL_moveMoth_0 3 rfl ?_
    refine a_iconst C dL_moveMoth_1 rfl ?_
    refine a_aload_n C dL_moveMoth_2 0 rfl ?_
    refine a_iload_n C dL_moveMoth_3 1 rfl ?_
    refine a_iload_n C dL_moveMoth_4 2 rfl ?_
    refine a_callV C (k := 0) (As := [.int a, .int b]) (rest := [.int 0, .ref (x_b G + 183)]) (h G) (cwV 2 C.1.2.2.2.2 (gl_up gL_moveMoth_X11_moveMoth) rfl rfl rfl (by decide +kernel) ⟨by dsimp only [x_rm]; omega, by dsimp only [x_rm]; omega⟩) x_k0 (q := (RX11, TX11, 13)) rfl rfl rfl rfl (Nat.le_of_ble_eq_true rfl) dL_moveMoth_5 ⟨Nat.le_of_ble_eq_true rfl, Nat.le_of_ble_eq_true rfl⟩ ?_
    refine a_i2l C dL_moveMoth_8 ?_
    refine a_last C dL_moveMoth_9 ?_
    refine a_goto (C.sl _) dL_moveMoth_10 (tgt := 17) rfl ?_
    refine a_iconst (C.sl _) dL_moveMoth_17 rfl ?_
    refine a_widen (Nat.zero_le 1) (Nat.zero_le 6) ?_
    exact a_iretL (C.sl _) rfl hlocks hret dL_moveMoth_18 (by decide) rfl
  · obtain ⟨k, rfl⟩ : ∃ j, k = j + 1 := ⟨k - 1, by omega⟩
    rw [if_neg (by omega)]
    rcases k with _ | k
    · injection (show some "java/lang/IndexOutOfBoundsException" = some E from hE) with hE
      subst hE
      refine x_startH (hh := [(0, 10, 13, 21)]) (by decide) rfl rfl (Nat.le_of_ble_eq_true rfl) rfl ?_
      intro p e s m args below meth c C hret hlocks hT
      refine a_aload_n C dL_moveMoth_0 3 rfl ?_
      refine a_iconst C dL_moveMoth_1 rfl ?_
      refine a_aload_n C dL_moveMoth_2 0 rfl ?_
      refine a_iload_n C dL_moveMoth_3 1 rfl ?_
      refine a_iload_n C dL_moveMoth_4 2 rfl ?_
      refine a_callC C (k := 0) (As := [.int a, .int b]) (rest := [.int 0, .ref (x_b G + 183)]) (h G) (cwV 2 C.1.2.2.2.2 (gl_up gL_moveMoth_X11_moveMoth) rfl rfl rfl (by decide +kernel) ⟨by dsimp only [x_rm]; omega, by dsimp only [x_rm]; omega⟩) x_k0 (q := (RX11, TX11, 13)) rfl rfl rfl rfl (Nat.le_of_ble_eq_true rfl) dL_moveMoth_5 ⟨Nat.le_of_ble_eq_true rfl, Nat.le_of_ble_eq_true rfl⟩ [] ⟨0, 10, 13, 21⟩ [] (hT.trans rfl) (fun z hz => absurd hz List.not_mem_nil) (by decide) (by decide) (List.mem_append_right _ (by decide +kernel)) (by decide +kernel) (fun w => ?_)
      refine a_astore C dL_moveMoth_13 (Nat.le_of_ble_eq_true rfl) rfl ?_
      refine a_iconst C dL_moveMoth_15 rfl ?_
      exact a_iretL C rfl hlocks hret dL_moveMoth_16 (by decide) rfl
    · exact absurd (show none = some E from hE) (fun z => by cases z)
theorem w_lampOfMoth (l : Launch) (G : xG) (d d1 : xd) (a : Int32) (k : Nat) (r : Int32) (h : y_C l yX11_lampOfMoth wsX11_lampOfMoth (fun G => [.ref (x_b G + 0), .int a]) ["java/lang/IndexOutOfBoundsException"] k (.int r) d d1) : x_ML G (if k = 0 then x_sl G r.toInt64 else G) l yL_lampOfMoth (wsL_lampOfMoth ++ ws_cl) 11 [.ref (x_b G + 0), .int a, .ref (x_b G + 183)] d (some (.int (nI k))) d1 := by
  obtain ⟨lv, hlv, ⟨rfl, h⟩ | ⟨E, h1, hE, h⟩⟩ := h
  · rw [if_pos rfl]
    refine x_startH (hh := [(0, 9, 12, 21)]) (by decide) rfl rfl (Nat.le_of_ble_eq_true rfl) rfl ?_
    intro p e s m args below meth c C hret hlocks hT
    refine a_aload_n C dL_lampOfMoth_0 2 rfl ?_
    refine a_iconst C dL_lampOfMoth_1 rfl ?_
    refine a_aload_n C dL_lampOfMoth_2 0 rfl ?_
    refine a_iload_n C dL_lampOfMoth_3 1 rfl ?_
    refine a_callV C (k := 0) (As := [.int a]) (rest := [.int 0, .ref (x_b G + 183)]) (h G) (cwV 1 C.1.2.2.2.2 (gl_up gL_lampOfMoth_X11_lampOfMoth) rfl rfl rfl (by decide +kernel) ⟨by dsimp only [x_rm]; omega, by dsimp only [x_rm]; omega⟩) x_k0 (q := (RX11, TX11, 13)) rfl rfl rfl rfl (Nat.le_of_ble_eq_true rfl) dL_lampOfMoth_4 ⟨Nat.le_of_ble_eq_true rfl, Nat.le_of_ble_eq_true rfl⟩ ?_
    refine a_i2l C dL_lampOfMoth_7 ?_
    refine a_last C dL_lampOfMoth_8 ?_
    refine a_goto (C.sl _) dL_lampOfMoth_9 (tgt := 15) rfl ?_
    refine a_iconst (C.sl _) dL_lampOfMoth_15 rfl ?_
    refine a_widen (Nat.zero_le 1) (Nat.zero_le 6) ?_
    exact a_iretL (C.sl _) rfl hlocks hret dL_lampOfMoth_16 (by decide) rfl
  · obtain ⟨k, rfl⟩ : ∃ j, k = j + 1 := ⟨k - 1, by omega⟩
    rw [if_neg (by omega)]
    rcases k with _ | k
    · injection (show some "java/lang/IndexOutOfBoundsException" = some E from hE) with hE
      subst hE
      refine x_startH (hh := [(0, 9, 12, 21)]) (by decide) rfl rfl (Nat.le_of_ble_eq_true rfl) rfl ?_
      intro p e s m args below meth c C hret hlocks hT
      refine a_aload_n C dL_lampOfMoth_0 2 rfl ?_
      refine a_iconst C dL_lampOfMoth_1 rfl ?_
      refine a_aload_n C dL_lampOfMoth_2 0 rfl ?_
      refine a_iload_n C dL_lampOfMoth_3 1 rfl ?_
      refine a_callC C (k := 0) (As := [.int a]) (rest := [.int 0, .ref (x_b G + 183)]) (h G) (cwV 1 C.1.2.2.2.2 (gl_up gL_lampOfMoth_X11_lampOfMoth) rfl rfl rfl (by decide +kernel) ⟨by dsimp only [x_rm]; omega, by dsimp only [x_rm]; omega⟩) x_k0 (q := (RX11, TX11, 13)) rfl rfl rfl rfl (Nat.le_of_ble_eq_true rfl) dL_lampOfMoth_4 ⟨Nat.le_of_ble_eq_true rfl, Nat.le_of_ble_eq_true rfl⟩ [] ⟨0, 9, 12, 21⟩ [] (hT.trans rfl) (fun z hz => absurd hz List.not_mem_nil) (by decide) (by decide) (List.mem_append_right _ (by decide +kernel)) (by decide +kernel) (fun w => ?_)
      refine a_astore_n C dL_lampOfMoth_12 (Nat.le_of_ble_eq_true rfl) rfl ?_
      refine a_iconst C dL_lampOfMoth_13 rfl ?_
      exact a_iretL C rfl hlocks hret dL_lampOfMoth_14 (by decide) rfl
    · exact absurd (show none = some E from hE) (fun z => by cases z)
theorem w_strikesOf (l : Launch) (G : xG) (d d1 : xd) (a : Int32) (k : Nat) (r : Int32) (h : y_C l yX11_strikesOf wsX11_strikesOf (fun G => [.ref (x_b G + 0), .int a]) ["java/lang/IndexOutOfBoundsException"] k (.int r) d d1) : x_ML G (if k = 0 then x_sl G r.toInt64 else G) l yL_strikesOf (wsL_strikesOf ++ ws_cl) 11 [.ref (x_b G + 0), .int a, .ref (x_b G + 183)] d (some (.int (nI k))) d1 := by
  obtain ⟨lv, hlv, ⟨rfl, h⟩ | ⟨E, h1, hE, h⟩⟩ := h
  · rw [if_pos rfl]
    refine x_startH (hh := [(0, 9, 12, 21)]) (by decide) rfl rfl (Nat.le_of_ble_eq_true rfl) rfl ?_
    intro p e s m args below meth c C hret hlocks hT
    refine a_aload_n C dL_strikesOf_0 2 rfl ?_
    refine a_iconst C dL_strikesOf_1 rfl ?_
    refine a_aload_n C dL_strikesOf_2 0 rfl ?_
    refine a_iload_n C dL_strikesOf_3 1 rfl ?_
    refine a_callV C (k := 0) (As := [.int a]) (rest := [.int 0, .ref (x_b G + 183)]) (h G) (cwV 1 C.1.2.2.2.2 (gl_up gL_strikesOf_X11_strikesOf) rfl rfl rfl (by decide +kernel) ⟨by dsimp only [x_rm]; omega, by dsimp only [x_rm]; omega⟩) x_k0 (q := (RX11, TX11, 13)) rfl rfl rfl rfl (Nat.le_of_ble_eq_true rfl) dL_strikesOf_4 ⟨Nat.le_of_ble_eq_true rfl, Nat.le_of_ble_eq_true rfl⟩ ?_
    refine a_i2l C dL_strikesOf_7 ?_
    refine a_last C dL_strikesOf_8 ?_
    refine a_goto (C.sl _) dL_strikesOf_9 (tgt := 15) rfl ?_
    refine a_iconst (C.sl _) dL_strikesOf_15 rfl ?_
    refine a_widen (Nat.zero_le 1) (Nat.zero_le 6) ?_
    exact a_iretL (C.sl _) rfl hlocks hret dL_strikesOf_16 (by decide) rfl
  · obtain ⟨k, rfl⟩ : ∃ j, k = j + 1 := ⟨k - 1, by omega⟩
    rw [if_neg (by omega)]
    rcases k with _ | k
    · injection (show some "java/lang/IndexOutOfBoundsException" = some E from hE) with hE
      subst hE
      refine x_startH (hh := [(0, 9, 12, 21)]) (by decide) rfl rfl (Nat.le_of_ble_eq_true rfl) rfl ?_
      intro p e s m args below meth c C hret hlocks hT
      refine a_aload_n C dL_strikesOf_0 2 rfl ?_
      refine a_iconst C dL_strikesOf_1 rfl ?_
      refine a_aload_n C dL_strikesOf_2 0 rfl ?_
      refine a_iload_n C dL_strikesOf_3 1 rfl ?_
      refine a_callC C (k := 0) (As := [.int a]) (rest := [.int 0, .ref (x_b G + 183)]) (h G) (cwV 1 C.1.2.2.2.2 (gl_up gL_strikesOf_X11_strikesOf) rfl rfl rfl (by decide +kernel) ⟨by dsimp only [x_rm]; omega, by dsimp only [x_rm]; omega⟩) x_k0 (q := (RX11, TX11, 13)) rfl rfl rfl rfl (Nat.le_of_ble_eq_true rfl) dL_strikesOf_4 ⟨Nat.le_of_ble_eq_true rfl, Nat.le_of_ble_eq_true rfl⟩ [] ⟨0, 9, 12, 21⟩ [] (hT.trans rfl) (fun z hz => absurd hz List.not_mem_nil) (by decide) (by decide) (List.mem_append_right _ (by decide +kernel)) (by decide +kernel) (fun w => ?_)
      refine a_astore_n C dL_strikesOf_12 (Nat.le_of_ble_eq_true rfl) rfl ?_
      refine a_iconst C dL_strikesOf_13 rfl ?_
      exact a_iretL C rfl hlocks hret dL_strikesOf_14 (by decide) rfl
    · exact absurd (show none = some E from hE) (fun z => by cases z)
theorem w_probationOf (l : Launch) (G : xG) (d d1 : xd) (a : Int32) (k : Nat) (r : Int32) (h : y_C l yX11_probationOf wsX11_probationOf (fun G => [.ref (x_b G + 0), .int a]) ["java/lang/IndexOutOfBoundsException"] k (.int r) d d1) : x_ML G (if k = 0 then x_sl G r.toInt64 else G) l yL_probationOf (wsL_probationOf ++ ws_cl) 11 [.ref (x_b G + 0), .int a, .ref (x_b G + 183)] d (some (.int (nI k))) d1 := by
  obtain ⟨lv, hlv, ⟨rfl, h⟩ | ⟨E, h1, hE, h⟩⟩ := h
  · rw [if_pos rfl]
    refine x_startH (hh := [(0, 9, 12, 21)]) (by decide) rfl rfl (Nat.le_of_ble_eq_true rfl) rfl ?_
    intro p e s m args below meth c C hret hlocks hT
    refine a_aload_n C dL_probationOf_0 2 rfl ?_
    refine a_iconst C dL_probationOf_1 rfl ?_
    refine a_aload_n C dL_probationOf_2 0 rfl ?_
    refine a_iload_n C dL_probationOf_3 1 rfl ?_
    refine a_callV C (k := 0) (As := [.int a]) (rest := [.int 0, .ref (x_b G + 183)]) (h G) (cwV 1 C.1.2.2.2.2 (gl_up gL_probationOf_X11_probationOf) rfl rfl rfl (by decide +kernel) ⟨by dsimp only [x_rm]; omega, by dsimp only [x_rm]; omega⟩) x_k0 (q := (RX11, TX11, 13)) rfl rfl rfl rfl (Nat.le_of_ble_eq_true rfl) dL_probationOf_4 ⟨Nat.le_of_ble_eq_true rfl, Nat.le_of_ble_eq_true rfl⟩ ?_
    refine a_i2l C dL_probationOf_7 ?_
    refine a_last C dL_probationOf_8 ?_
    refine a_goto (C.sl _) dL_probationOf_9 (tgt := 15) rfl ?_
    refine a_iconst (C.sl _) dL_probationOf_15 rfl ?_
    refine a_widen (Nat.zero_le 1) (Nat.zero_le 6) ?_
    exact a_iretL (C.sl _) rfl hlocks hret dL_probationOf_16 (by decide) rfl
  · obtain ⟨k, rfl⟩ : ∃ j, k = j + 1 := ⟨k - 1, by omega⟩
    rw [if_neg (by omega)]
    rcases k with _ | k
    · injection (show some "java/lang/IndexOutOfBoundsException" = some E from hE) with hE
      subst hE
      refine x_startH (hh := [(0, 9, 12, 21)]) (by decide) rfl rfl (Nat.le_of_ble_eq_true rfl) rfl ?_
      intro p e s m args below meth c C hret hlocks hT
      refine a_aload_n C dL_probationOf_0 2 rfl ?_
      refine a_iconst C dL_probationOf_1 rfl ?_
      refine a_aload_n C dL_probationOf_2 0 rfl ?_
      refine a_iload_n C dL_probationOf_3 1 rfl ?_
      refine a_callC C (k := 0) (As := [.int a]) (rest := [.int 0, .ref (x_b G + 183)]) (h G) (cwV 1 C.1.2.2.2.2 (gl_up gL_probationOf_X11_probationOf) rfl rfl rfl (by decide +kernel) ⟨by dsimp only [x_rm]; omega, by dsimp only [x_rm]; omega⟩) x_k0 (q := (RX11, TX11, 13)) rfl rfl rfl rfl (Nat.le_of_ble_eq_true rfl) dL_probationOf_4 ⟨Nat.le_of_ble_eq_true rfl, Nat.le_of_ble_eq_true rfl⟩ [] ⟨0, 9, 12, 21⟩ [] (hT.trans rfl) (fun z hz => absurd hz List.not_mem_nil) (by decide) (by decide) (List.mem_append_right _ (by decide +kernel)) (by decide +kernel) (fun w => ?_)
      refine a_astore_n C dL_probationOf_12 (Nat.le_of_ble_eq_true rfl) rfl ?_
      refine a_iconst C dL_probationOf_13 rfl ?_
      exact a_iretL C rfl hlocks hret dL_probationOf_14 (by decide) rfl
    · exact absurd (show none = some E from hE) (fun z => by cases z)
theorem w_isMember (l : Launch) (G : xG) (d d1 : xd) (a : Int32) (k : Nat) (r : Int32) (h : y_C l yX11_isMember wsX11_isMember (fun G => [.ref (x_b G + 0), .int a]) ["java/lang/IndexOutOfBoundsException"] k (.int r) d d1) : x_ML G (if k = 0 then x_sl G (x_lz r) else G) l yL_isMember (wsL_isMember ++ ws_cl) 11 [.ref (x_b G + 0), .int a, .ref (x_b G + 183)] d (some (.int (nI k))) d1 := by
  obtain ⟨lv, hlv, ⟨rfl, h⟩ | ⟨E, h1, hE, h⟩⟩ := h
  · rw [if_pos rfl]
    refine x_startH (hh := [(0, 16, 19, 21)]) (by decide) rfl rfl (Nat.le_of_ble_eq_true rfl) rfl ?_
    intro p e s m args below meth c C hret hlocks hT
    refine a_aload_n C dL_isMember_0 2 rfl ?_
    refine a_iconst C dL_isMember_1 rfl ?_
    refine a_aload_n C dL_isMember_2 0 rfl ?_
    refine a_iload_n C dL_isMember_3 1 rfl ?_
    refine a_callV C (k := 0) (As := [.int a]) (rest := [.int 0, .ref (x_b G + 183)]) (h G) (cwV 1 C.1.2.2.2.2 (gl_up gL_isMember_X11_isMember) rfl rfl rfl (by decide +kernel) ⟨by dsimp only [x_rm]; omega, by dsimp only [x_rm]; omega⟩) x_k0 (q := (RX11, TX11, 13)) rfl rfl rfl rfl (Nat.le_of_ble_eq_true rfl) dL_isMember_4 ⟨Nat.le_of_ble_eq_true rfl, Nat.le_of_ble_eq_true rfl⟩ ?_
    refine a_if_eq C dL_isMember_7 (tgt := 14) rfl (fun hz => ?_) (fun hz => ?_)
    · rw [show x_lz r = 0 from if_pos hz]
      refine a_lconst C dL_isMember_14 rfl ?_
      refine a_last C dL_isMember_15 ?_
      refine a_goto (C.sl _) dL_isMember_16 (tgt := 22) rfl ?_
      refine a_iconst (C.sl _) dL_isMember_22 rfl ?_
      refine a_widen (Nat.zero_le 1) (Nat.zero_le 6) ?_
      exact a_iretL (C.sl _) rfl hlocks hret dL_isMember_23 (by decide) rfl
    · rw [show x_lz r = 1 from if_neg hz]
      refine a_lconst C dL_isMember_10 rfl ?_
      refine a_goto C dL_isMember_11 (tgt := 15) rfl ?_
      refine a_last C dL_isMember_15 ?_
      refine a_goto (C.sl _) dL_isMember_16 (tgt := 22) rfl ?_
      refine a_iconst (C.sl _) dL_isMember_22 rfl ?_
      refine a_widen (Nat.zero_le 1) (Nat.zero_le 6) ?_
      exact a_iretL (C.sl _) rfl hlocks hret dL_isMember_23 (by decide) rfl
  · obtain ⟨k, rfl⟩ : ∃ j, k = j + 1 := ⟨k - 1, by omega⟩
    rw [if_neg (by omega)]
    rcases k with _ | k
    · injection (show some "java/lang/IndexOutOfBoundsException" = some E from hE) with hE
      subst hE
      refine x_startH (hh := [(0, 16, 19, 21)]) (by decide) rfl rfl (Nat.le_of_ble_eq_true rfl) rfl ?_
      intro p e s m args below meth c C hret hlocks hT
      refine a_aload_n C dL_isMember_0 2 rfl ?_
      refine a_iconst C dL_isMember_1 rfl ?_
      refine a_aload_n C dL_isMember_2 0 rfl ?_
      refine a_iload_n C dL_isMember_3 1 rfl ?_
      refine a_callC C (k := 0) (As := [.int a]) (rest := [.int 0, .ref (x_b G + 183)]) (h G) (cwV 1 C.1.2.2.2.2 (gl_up gL_isMember_X11_isMember) rfl rfl rfl (by decide +kernel) ⟨by dsimp only [x_rm]; omega, by dsimp only [x_rm]; omega⟩) x_k0 (q := (RX11, TX11, 13)) rfl rfl rfl rfl (Nat.le_of_ble_eq_true rfl) dL_isMember_4 ⟨Nat.le_of_ble_eq_true rfl, Nat.le_of_ble_eq_true rfl⟩ [] ⟨0, 16, 19, 21⟩ [] (hT.trans rfl) (fun z hz => absurd hz List.not_mem_nil) (by decide) (by decide) (List.mem_append_right _ (by decide +kernel)) (by decide +kernel) (fun w => ?_)
      refine a_astore_n C dL_isMember_19 (Nat.le_of_ble_eq_true rfl) rfl ?_
      refine a_iconst C dL_isMember_20 rfl ?_
      exact a_iretL C rfl hlocks hret dL_isMember_21 (by decide) rfl
    · exact absurd (show none = some E from hE) (fun z => by cases z)
theorem w_canBurn (l : Launch) (G : xG) (d d1 : xd) (a : Int32) (k : Nat) (r : Int32) (h : y_C l yX11_canBurn wsX11_canBurn (fun G => [.ref (x_b G + 0), .int a]) ["java/lang/IndexOutOfBoundsException"] k (.int r) d d1) : x_ML G (if k = 0 then x_sl G (x_lz r) else G) l yL_canBurn (wsL_canBurn ++ ws_cl) 11 [.ref (x_b G + 0), .int a, .ref (x_b G + 183)] d (some (.int (nI k))) d1 := by
  obtain ⟨lv, hlv, ⟨rfl, h⟩ | ⟨E, h1, hE, h⟩⟩ := h
  · rw [if_pos rfl]
    refine x_startH (hh := [(0, 16, 19, 21)]) (by decide) rfl rfl (Nat.le_of_ble_eq_true rfl) rfl ?_
    intro p e s m args below meth c C hret hlocks hT
    refine a_aload_n C dL_canBurn_0 2 rfl ?_
    refine a_iconst C dL_canBurn_1 rfl ?_
    refine a_aload_n C dL_canBurn_2 0 rfl ?_
    refine a_iload_n C dL_canBurn_3 1 rfl ?_
    refine a_callV C (k := 0) (As := [.int a]) (rest := [.int 0, .ref (x_b G + 183)]) (h G) (cwV 1 C.1.2.2.2.2 (gl_up gL_canBurn_X11_canBurn) rfl rfl rfl (by decide +kernel) ⟨by dsimp only [x_rm]; omega, by dsimp only [x_rm]; omega⟩) x_k0 (q := (RX11, TX11, 13)) rfl rfl rfl rfl (Nat.le_of_ble_eq_true rfl) dL_canBurn_4 ⟨Nat.le_of_ble_eq_true rfl, Nat.le_of_ble_eq_true rfl⟩ ?_
    refine a_if_eq C dL_canBurn_7 (tgt := 14) rfl (fun hz => ?_) (fun hz => ?_)
    · rw [show x_lz r = 0 from if_pos hz]
      refine a_lconst C dL_canBurn_14 rfl ?_
      refine a_last C dL_canBurn_15 ?_
      refine a_goto (C.sl _) dL_canBurn_16 (tgt := 22) rfl ?_
      refine a_iconst (C.sl _) dL_canBurn_22 rfl ?_
      refine a_widen (Nat.zero_le 1) (Nat.zero_le 6) ?_
      exact a_iretL (C.sl _) rfl hlocks hret dL_canBurn_23 (by decide) rfl
    · rw [show x_lz r = 1 from if_neg hz]
      refine a_lconst C dL_canBurn_10 rfl ?_
      refine a_goto C dL_canBurn_11 (tgt := 15) rfl ?_
      refine a_last C dL_canBurn_15 ?_
      refine a_goto (C.sl _) dL_canBurn_16 (tgt := 22) rfl ?_
      refine a_iconst (C.sl _) dL_canBurn_22 rfl ?_
      refine a_widen (Nat.zero_le 1) (Nat.zero_le 6) ?_
      exact a_iretL (C.sl _) rfl hlocks hret dL_canBurn_23 (by decide) rfl
  · obtain ⟨k, rfl⟩ : ∃ j, k = j + 1 := ⟨k - 1, by omega⟩
    rw [if_neg (by omega)]
    rcases k with _ | k
    · injection (show some "java/lang/IndexOutOfBoundsException" = some E from hE) with hE
      subst hE
      refine x_startH (hh := [(0, 16, 19, 21)]) (by decide) rfl rfl (Nat.le_of_ble_eq_true rfl) rfl ?_
      intro p e s m args below meth c C hret hlocks hT
      refine a_aload_n C dL_canBurn_0 2 rfl ?_
      refine a_iconst C dL_canBurn_1 rfl ?_
      refine a_aload_n C dL_canBurn_2 0 rfl ?_
      refine a_iload_n C dL_canBurn_3 1 rfl ?_
      refine a_callC C (k := 0) (As := [.int a]) (rest := [.int 0, .ref (x_b G + 183)]) (h G) (cwV 1 C.1.2.2.2.2 (gl_up gL_canBurn_X11_canBurn) rfl rfl rfl (by decide +kernel) ⟨by dsimp only [x_rm]; omega, by dsimp only [x_rm]; omega⟩) x_k0 (q := (RX11, TX11, 13)) rfl rfl rfl rfl (Nat.le_of_ble_eq_true rfl) dL_canBurn_4 ⟨Nat.le_of_ble_eq_true rfl, Nat.le_of_ble_eq_true rfl⟩ [] ⟨0, 16, 19, 21⟩ [] (hT.trans rfl) (fun z hz => absurd hz List.not_mem_nil) (by decide) (by decide) (List.mem_append_right _ (by decide +kernel)) (by decide +kernel) (fun w => ?_)
      refine a_astore_n C dL_canBurn_19 (Nat.le_of_ble_eq_true rfl) rfl ?_
      refine a_iconst C dL_canBurn_20 rfl ?_
      exact a_iretL C rfl hlocks hret dL_canBurn_21 (by decide) rfl
    · exact absurd (show none = some E from hE) (fun z => by cases z)
theorem w_nightsOf (l : Launch) (G : xG) (d d1 : xd) (a : Int32) (k : Nat) (r : Int32) (h : y_C l yX11_nightsOf wsX11_nightsOf (fun G => [.ref (x_b G + 0), .int a]) ["java/lang/IndexOutOfBoundsException"] k (.int r) d d1) : x_ML G (if k = 0 then x_sl G r.toInt64 else G) l yL_nightsOf (wsL_nightsOf ++ ws_cl) 11 [.ref (x_b G + 0), .int a, .ref (x_b G + 183)] d (some (.int (nI k))) d1 := by
  obtain ⟨lv, hlv, ⟨rfl, h⟩ | ⟨E, h1, hE, h⟩⟩ := h
  · rw [if_pos rfl]
    refine x_startH (hh := [(0, 9, 12, 21)]) (by decide) rfl rfl (Nat.le_of_ble_eq_true rfl) rfl ?_
    intro p e s m args below meth c C hret hlocks hT
    refine a_aload_n C dL_nightsOf_0 2 rfl ?_
    refine a_iconst C dL_nightsOf_1 rfl ?_
    refine a_aload_n C dL_nightsOf_2 0 rfl ?_
    refine a_iload_n C dL_nightsOf_3 1 rfl ?_
    refine a_callV C (k := 0) (As := [.int a]) (rest := [.int 0, .ref (x_b G + 183)]) (h G) (cwV 1 C.1.2.2.2.2 (gl_up gL_nightsOf_X11_nightsOf) rfl rfl rfl (by decide +kernel) ⟨by dsimp only [x_rm]; omega, by dsimp only [x_rm]; omega⟩) x_k0 (q := (RX11, TX11, 13)) rfl rfl rfl rfl (Nat.le_of_ble_eq_true rfl) dL_nightsOf_4 ⟨Nat.le_of_ble_eq_true rfl, Nat.le_of_ble_eq_true rfl⟩ ?_
    refine a_i2l C dL_nightsOf_7 ?_
    refine a_last C dL_nightsOf_8 ?_
    refine a_goto (C.sl _) dL_nightsOf_9 (tgt := 15) rfl ?_
    refine a_iconst (C.sl _) dL_nightsOf_15 rfl ?_
    refine a_widen (Nat.zero_le 1) (Nat.zero_le 6) ?_
    exact a_iretL (C.sl _) rfl hlocks hret dL_nightsOf_16 (by decide) rfl
  · obtain ⟨k, rfl⟩ : ∃ j, k = j + 1 := ⟨k - 1, by omega⟩
    rw [if_neg (by omega)]
    rcases k with _ | k
    · injection (show some "java/lang/IndexOutOfBoundsException" = some E from hE) with hE
      subst hE
      refine x_startH (hh := [(0, 9, 12, 21)]) (by decide) rfl rfl (Nat.le_of_ble_eq_true rfl) rfl ?_
      intro p e s m args below meth c C hret hlocks hT
      refine a_aload_n C dL_nightsOf_0 2 rfl ?_
      refine a_iconst C dL_nightsOf_1 rfl ?_
      refine a_aload_n C dL_nightsOf_2 0 rfl ?_
      refine a_iload_n C dL_nightsOf_3 1 rfl ?_
      refine a_callC C (k := 0) (As := [.int a]) (rest := [.int 0, .ref (x_b G + 183)]) (h G) (cwV 1 C.1.2.2.2.2 (gl_up gL_nightsOf_X11_nightsOf) rfl rfl rfl (by decide +kernel) ⟨by dsimp only [x_rm]; omega, by dsimp only [x_rm]; omega⟩) x_k0 (q := (RX11, TX11, 13)) rfl rfl rfl rfl (Nat.le_of_ble_eq_true rfl) dL_nightsOf_4 ⟨Nat.le_of_ble_eq_true rfl, Nat.le_of_ble_eq_true rfl⟩ [] ⟨0, 9, 12, 21⟩ [] (hT.trans rfl) (fun z hz => absurd hz List.not_mem_nil) (by decide) (by decide) (List.mem_append_right _ (by decide +kernel)) (by decide +kernel) (fun w => ?_)
      refine a_astore_n C dL_nightsOf_12 (Nat.le_of_ble_eq_true rfl) rfl ?_
      refine a_iconst C dL_nightsOf_13 rfl ?_
      exact a_iretL C rfl hlocks hret dL_nightsOf_14 (by decide) rfl
    · exact absurd (show none = some E from hE) (fun z => by cases z)
theorem w_nightsBySimulation (l : Launch) (G : xG) (d d1 : xd) (a : Int32) (k : Nat) (r : Int32) (h : y_C l yX11_nightsBySimulation wsX11_nightsBySimulation (fun G => [.ref (x_b G + 0), .int a]) ["java/lang/IndexOutOfBoundsException"] k (.int r) d d1) : x_ML G (if k = 0 then x_sl G r.toInt64 else G) l yL_nightsBySimulation (wsL_nightsBySimulation ++ ws_cl) 11 [.ref (x_b G + 0), .int a, .ref (x_b G + 183)] d (some (.int (nI k))) d1 := by
  obtain ⟨lv, hlv, ⟨rfl, h⟩ | ⟨E, h1, hE, h⟩⟩ := h
  · rw [if_pos rfl]
    refine x_startH (hh := [(0, 9, 12, 21)]) (by decide) rfl rfl (Nat.le_of_ble_eq_true rfl) rfl ?_
    intro p e s m args below meth c C hret hlocks hT
    refine a_aload_n C dL_nightsBySimulation_0 2 rfl ?_
    refine a_iconst C dL_nightsBySimulation_1 rfl ?_
    refine a_aload_n C dL_nightsBySimulation_2 0 rfl ?_
    refine a_iload_n C dL_nightsBySimulation_3 1 rfl ?_
    refine a_callV C (k := 0) (As := [.int a]) (rest := [.int 0, .ref (x_b G + 183)]) (h G) (cwV 1 C.1.2.2.2.2 (gl_up gL_nightsBySimulation_X11_nightsBySimulation) rfl rfl rfl (by decide +kernel) ⟨by dsimp only [x_rm]; omega, by dsimp only [x_rm]; omega⟩) x_k0 (q := (RX11, TX11, 13)) rfl rfl rfl rfl (Nat.le_of_ble_eq_true rfl) dL_nightsBySimulation_4 ⟨Nat.le_of_ble_eq_true rfl, Nat.le_of_ble_eq_true rfl⟩ ?_
    refine a_i2l C dL_nightsBySimulation_7 ?_
    refine a_last C dL_nightsBySimulation_8 ?_
    refine a_goto (C.sl _) dL_nightsBySimulation_9 (tgt := 15) rfl ?_
    refine a_iconst (C.sl _) dL_nightsBySimulation_15 rfl ?_
    refine a_widen (Nat.zero_le 1) (Nat.zero_le 6) ?_
    exact a_iretL (C.sl _) rfl hlocks hret dL_nightsBySimulation_16 (by decide) rfl
  · obtain ⟨k, rfl⟩ : ∃ j, k = j + 1 := ⟨k - 1, by omega⟩
    rw [if_neg (by omega)]
    rcases k with _ | k
    · injection (show some "java/lang/IndexOutOfBoundsException" = some E from hE) with hE
      subst hE
      refine x_startH (hh := [(0, 9, 12, 21)]) (by decide) rfl rfl (Nat.le_of_ble_eq_true rfl) rfl ?_
      intro p e s m args below meth c C hret hlocks hT
      refine a_aload_n C dL_nightsBySimulation_0 2 rfl ?_
      refine a_iconst C dL_nightsBySimulation_1 rfl ?_
      refine a_aload_n C dL_nightsBySimulation_2 0 rfl ?_
      refine a_iload_n C dL_nightsBySimulation_3 1 rfl ?_
      refine a_callC C (k := 0) (As := [.int a]) (rest := [.int 0, .ref (x_b G + 183)]) (h G) (cwV 1 C.1.2.2.2.2 (gl_up gL_nightsBySimulation_X11_nightsBySimulation) rfl rfl rfl (by decide +kernel) ⟨by dsimp only [x_rm]; omega, by dsimp only [x_rm]; omega⟩) x_k0 (q := (RX11, TX11, 13)) rfl rfl rfl rfl (Nat.le_of_ble_eq_true rfl) dL_nightsBySimulation_4 ⟨Nat.le_of_ble_eq_true rfl, Nat.le_of_ble_eq_true rfl⟩ [] ⟨0, 9, 12, 21⟩ [] (hT.trans rfl) (fun z hz => absurd hz List.not_mem_nil) (by decide) (by decide) (List.mem_append_right _ (by decide +kernel)) (by decide +kernel) (fun w => ?_)
      refine a_astore_n C dL_nightsBySimulation_12 (Nat.le_of_ble_eq_true rfl) rfl ?_
      refine a_iconst C dL_nightsBySimulation_13 rfl ?_
      exact a_iretL C rfl hlocks hret dL_nightsBySimulation_14 (by decide) rfl
    · exact absurd (show none = some E from hE) (fun z => by cases z)
theorem w_glowOf (l : Launch) (G : xG) (d d1 : xd) (a : Int32) (k : Nat) (r : Int32) (h : y_C l yX11_glowOf wsX11_glowOf (fun G => [.ref (x_b G + 0), .int a]) ["java/lang/IndexOutOfBoundsException"] k (.int r) d d1) : x_ML G (if k = 0 then x_sl G r.toInt64 else G) l yL_glowOf (wsL_glowOf ++ ws_cl) 11 [.ref (x_b G + 0), .int a, .ref (x_b G + 183)] d (some (.int (nI k))) d1 := by
  obtain ⟨lv, hlv, ⟨rfl, h⟩ | ⟨E, h1, hE, h⟩⟩ := h
  · rw [if_pos rfl]
    refine x_startH (hh := [(0, 9, 12, 21)]) (by decide) rfl rfl (Nat.le_of_ble_eq_true rfl) rfl ?_
    intro p e s m args below meth c C hret hlocks hT
    refine a_aload_n C dL_glowOf_0 2 rfl ?_
    refine a_iconst C dL_glowOf_1 rfl ?_
    refine a_aload_n C dL_glowOf_2 0 rfl ?_
    refine a_iload_n C dL_glowOf_3 1 rfl ?_
    refine a_callV C (k := 0) (As := [.int a]) (rest := [.int 0, .ref (x_b G + 183)]) (h G) (cwV 1 C.1.2.2.2.2 (gl_up gL_glowOf_X11_glowOf) rfl rfl rfl (by decide +kernel) ⟨by dsimp only [x_rm]; omega, by dsimp only [x_rm]; omega⟩) x_k0 (q := (RX11, TX11, 13)) rfl rfl rfl rfl (Nat.le_of_ble_eq_true rfl) dL_glowOf_4 ⟨Nat.le_of_ble_eq_true rfl, Nat.le_of_ble_eq_true rfl⟩ ?_
    refine a_i2l C dL_glowOf_7 ?_
    refine a_last C dL_glowOf_8 ?_
    refine a_goto (C.sl _) dL_glowOf_9 (tgt := 15) rfl ?_
    refine a_iconst (C.sl _) dL_glowOf_15 rfl ?_
    refine a_widen (Nat.zero_le 1) (Nat.zero_le 6) ?_
    exact a_iretL (C.sl _) rfl hlocks hret dL_glowOf_16 (by decide) rfl
  · obtain ⟨k, rfl⟩ : ∃ j, k = j + 1 := ⟨k - 1, by omega⟩
    rw [if_neg (by omega)]
    rcases k with _ | k
    · injection (show some "java/lang/IndexOutOfBoundsException" = some E from hE) with hE
      subst hE
      refine x_startH (hh := [(0, 9, 12, 21)]) (by decide) rfl rfl (Nat.le_of_ble_eq_true rfl) rfl ?_
      intro p e s m args below meth c C hret hlocks hT
      refine a_aload_n C dL_glowOf_0 2 rfl ?_
      refine a_iconst C dL_glowOf_1 rfl ?_
      refine a_aload_n C dL_glowOf_2 0 rfl ?_
      refine a_iload_n C dL_glowOf_3 1 rfl ?_
      refine a_callC C (k := 0) (As := [.int a]) (rest := [.int 0, .ref (x_b G + 183)]) (h G) (cwV 1 C.1.2.2.2.2 (gl_up gL_glowOf_X11_glowOf) rfl rfl rfl (by decide +kernel) ⟨by dsimp only [x_rm]; omega, by dsimp only [x_rm]; omega⟩) x_k0 (q := (RX11, TX11, 13)) rfl rfl rfl rfl (Nat.le_of_ble_eq_true rfl) dL_glowOf_4 ⟨Nat.le_of_ble_eq_true rfl, Nat.le_of_ble_eq_true rfl⟩ [] ⟨0, 9, 12, 21⟩ [] (hT.trans rfl) (fun z hz => absurd hz List.not_mem_nil) (by decide) (by decide) (List.mem_append_right _ (by decide +kernel)) (by decide +kernel) (fun w => ?_)
      refine a_astore_n C dL_glowOf_12 (Nat.le_of_ble_eq_true rfl) rfl ?_
      refine a_iconst C dL_glowOf_13 rfl ?_
      exact a_iretL C rfl hlocks hret dL_glowOf_14 (by decide) rfl
    · exact absurd (show none = some E from hE) (fun z => by cases z)
theorem w_isDark (l : Launch) (G : xG) (d d1 : xd) (a : Int32) (k : Nat) (r : Int32) (h : y_C l yX11_isDark wsX11_isDark (fun G => [.ref (x_b G + 0), .int a]) ["java/lang/IndexOutOfBoundsException"] k (.int r) d d1) : x_ML G (if k = 0 then x_sl G (x_lz r) else G) l yL_isDark (wsL_isDark ++ ws_cl) 11 [.ref (x_b G + 0), .int a, .ref (x_b G + 183)] d (some (.int (nI k))) d1 := by
  obtain ⟨lv, hlv, ⟨rfl, h⟩ | ⟨E, h1, hE, h⟩⟩ := h
  · rw [if_pos rfl]
    refine x_startH (hh := [(0, 16, 19, 21)]) (by decide) rfl rfl (Nat.le_of_ble_eq_true rfl) rfl ?_
    intro p e s m args below meth c C hret hlocks hT
    refine a_aload_n C dL_isDark_0 2 rfl ?_
    refine a_iconst C dL_isDark_1 rfl ?_
    refine a_aload_n C dL_isDark_2 0 rfl ?_
    refine a_iload_n C dL_isDark_3 1 rfl ?_
    refine a_callV C (k := 0) (As := [.int a]) (rest := [.int 0, .ref (x_b G + 183)]) (h G) (cwV 1 C.1.2.2.2.2 (gl_up gL_isDark_X11_isDark) rfl rfl rfl (by decide +kernel) ⟨by dsimp only [x_rm]; omega, by dsimp only [x_rm]; omega⟩) x_k0 (q := (RX11, TX11, 13)) rfl rfl rfl rfl (Nat.le_of_ble_eq_true rfl) dL_isDark_4 ⟨Nat.le_of_ble_eq_true rfl, Nat.le_of_ble_eq_true rfl⟩ ?_
    refine a_if_eq C dL_isDark_7 (tgt := 14) rfl (fun hz => ?_) (fun hz => ?_)
    · rw [show x_lz r = 0 from if_pos hz]
      refine a_lconst C dL_isDark_14 rfl ?_
      refine a_last C dL_isDark_15 ?_
      refine a_goto (C.sl _) dL_isDark_16 (tgt := 22) rfl ?_
      refine a_iconst (C.sl _) dL_isDark_22 rfl ?_
      refine a_widen (Nat.zero_le 1) (Nat.zero_le 6) ?_
      exact a_iretL (C.sl _) rfl hlocks hret dL_isDark_23 (by decide) rfl
    · rw [show x_lz r = 1 from if_neg hz]
      refine a_lconst C dL_isDark_10 rfl ?_
      refine a_goto C dL_isDark_11 (tgt := 15) rfl ?_
      refine a_last C dL_isDark_15 ?_
      refine a_goto (C.sl _) dL_isDark_16 (tgt := 22) rfl ?_
      refine a_iconst (C.sl _) dL_isDark_22 rfl ?_
      refine a_widen (Nat.zero_le 1) (Nat.zero_le 6) ?_
      exact a_iretL (C.sl _) rfl hlocks hret dL_isDark_23 (by decide) rfl
  · obtain ⟨k, rfl⟩ : ∃ j, k = j + 1 := ⟨k - 1, by omega⟩
    rw [if_neg (by omega)]
    rcases k with _ | k
    · injection (show some "java/lang/IndexOutOfBoundsException" = some E from hE) with hE
      subst hE
      refine x_startH (hh := [(0, 16, 19, 21)]) (by decide) rfl rfl (Nat.le_of_ble_eq_true rfl) rfl ?_
      intro p e s m args below meth c C hret hlocks hT
      refine a_aload_n C dL_isDark_0 2 rfl ?_
      refine a_iconst C dL_isDark_1 rfl ?_
      refine a_aload_n C dL_isDark_2 0 rfl ?_
      refine a_iload_n C dL_isDark_3 1 rfl ?_
      refine a_callC C (k := 0) (As := [.int a]) (rest := [.int 0, .ref (x_b G + 183)]) (h G) (cwV 1 C.1.2.2.2.2 (gl_up gL_isDark_X11_isDark) rfl rfl rfl (by decide +kernel) ⟨by dsimp only [x_rm]; omega, by dsimp only [x_rm]; omega⟩) x_k0 (q := (RX11, TX11, 13)) rfl rfl rfl rfl (Nat.le_of_ble_eq_true rfl) dL_isDark_4 ⟨Nat.le_of_ble_eq_true rfl, Nat.le_of_ble_eq_true rfl⟩ [] ⟨0, 16, 19, 21⟩ [] (hT.trans rfl) (fun z hz => absurd hz List.not_mem_nil) (by decide) (by decide) (List.mem_append_right _ (by decide +kernel)) (by decide +kernel) (fun w => ?_)
      refine a_astore_n C dL_isDark_19 (Nat.le_of_ble_eq_true rfl) rfl ?_
      refine a_iconst C dL_isDark_20 rfl ?_
      exact a_iretL C rfl hlocks hret dL_isDark_21 (by decide) rfl
    · exact absurd (show none = some E from hE) (fun z => by cases z)
theorem w_proposeCap (l : Launch) (G : xG) (d d1 : xd) (a : Int32) (k : Nat) (r : Int32) (h : y_C l yX11_proposeCap wsX11_proposeCap (fun G => [.ref (x_b G + 0), .int a]) ["java/lang/IllegalArgumentException", "java/lang/IllegalStateException"] k (.int r) d d1) : x_ML G (if k = 0 then x_sl G (x_lz r) else G) l yL_proposeCap (wsL_proposeCap ++ ws_cl) 11 [.ref (x_b G + 0), .int a, .ref (x_b G + 183)] d (some (.int (nI k))) d1 := by
  obtain ⟨lv, hlv, ⟨rfl, h⟩ | ⟨E, h1, hE, h⟩⟩ := h
  · rw [if_pos rfl]
    refine x_startH (hh := [(0, 16, 19, 13), (0, 16, 22, 15)]) (by decide) rfl rfl (Nat.le_of_ble_eq_true rfl) rfl ?_
    intro p e s m args below meth c C hret hlocks hT
    refine a_aload_n C dL_proposeCap_0 2 rfl ?_
    refine a_iconst C dL_proposeCap_1 rfl ?_
    refine a_aload_n C dL_proposeCap_2 0 rfl ?_
    refine a_iload_n C dL_proposeCap_3 1 rfl ?_
    refine a_callV C (k := 0) (As := [.int a]) (rest := [.int 0, .ref (x_b G + 183)]) (h G) (cwV 1 C.1.2.2.2.2 (gl_up gL_proposeCap_X11_proposeCap) rfl rfl rfl (by decide +kernel) ⟨by dsimp only [x_rm]; omega, by dsimp only [x_rm]; omega⟩) x_k0 (q := (RX11, TX11, 13)) rfl rfl rfl rfl (Nat.le_of_ble_eq_true rfl) dL_proposeCap_4 ⟨Nat.le_of_ble_eq_true rfl, Nat.le_of_ble_eq_true rfl⟩ ?_
    refine a_if_eq C dL_proposeCap_7 (tgt := 14) rfl (fun hz => ?_) (fun hz => ?_)
    · rw [show x_lz r = 0 from if_pos hz]
      refine a_lconst C dL_proposeCap_14 rfl ?_
      refine a_last C dL_proposeCap_15 ?_
      refine a_goto (C.sl _) dL_proposeCap_16 (tgt := 25) rfl ?_
      refine a_iconst (C.sl _) dL_proposeCap_25 rfl ?_
      refine a_widen (Nat.zero_le 1) (Nat.zero_le 6) ?_
      exact a_iretL (C.sl _) rfl hlocks hret dL_proposeCap_26 (by decide) rfl
    · rw [show x_lz r = 1 from if_neg hz]
      refine a_lconst C dL_proposeCap_10 rfl ?_
      refine a_goto C dL_proposeCap_11 (tgt := 15) rfl ?_
      refine a_last C dL_proposeCap_15 ?_
      refine a_goto (C.sl _) dL_proposeCap_16 (tgt := 25) rfl ?_
      refine a_iconst (C.sl _) dL_proposeCap_25 rfl ?_
      refine a_widen (Nat.zero_le 1) (Nat.zero_le 6) ?_
      exact a_iretL (C.sl _) rfl hlocks hret dL_proposeCap_26 (by decide) rfl
  · obtain ⟨k, rfl⟩ : ∃ j, k = j + 1 := ⟨k - 1, by omega⟩
    rw [if_neg (by omega)]
    rcases k with _ | _ | k
    · injection (show some "java/lang/IllegalArgumentException" = some E from hE) with hE
      subst hE
      refine x_startH (hh := [(0, 16, 19, 13), (0, 16, 22, 15)]) (by decide) rfl rfl (Nat.le_of_ble_eq_true rfl) rfl ?_
      intro p e s m args below meth c C hret hlocks hT
      refine a_aload_n C dL_proposeCap_0 2 rfl ?_
      refine a_iconst C dL_proposeCap_1 rfl ?_
      refine a_aload_n C dL_proposeCap_2 0 rfl ?_
      refine a_iload_n C dL_proposeCap_3 1 rfl ?_
      refine a_callC C (k := 0) (As := [.int a]) (rest := [.int 0, .ref (x_b G + 183)]) (h G) (cwV 1 C.1.2.2.2.2 (gl_up gL_proposeCap_X11_proposeCap) rfl rfl rfl (by decide +kernel) ⟨by dsimp only [x_rm]; omega, by dsimp only [x_rm]; omega⟩) x_k0 (q := (RX11, TX11, 13)) rfl rfl rfl rfl (Nat.le_of_ble_eq_true rfl) dL_proposeCap_4 ⟨Nat.le_of_ble_eq_true rfl, Nat.le_of_ble_eq_true rfl⟩ [] ⟨0, 16, 19, 13⟩ [⟨0, 16, 22, 15⟩] (hT.trans rfl) (fun z hz => absurd hz List.not_mem_nil) (by decide) (by decide) (List.mem_append_right _ (by decide +kernel)) (by decide +kernel) (fun w => ?_)
      refine a_astore_n C dL_proposeCap_19 (Nat.le_of_ble_eq_true rfl) rfl ?_
      refine a_iconst C dL_proposeCap_20 rfl ?_
      exact a_iretL C rfl hlocks hret dL_proposeCap_21 (by decide) rfl
    · injection (show some "java/lang/IllegalStateException" = some E from hE) with hE
      subst hE
      refine x_startH (hh := [(0, 16, 19, 13), (0, 16, 22, 15)]) (by decide) rfl rfl (Nat.le_of_ble_eq_true rfl) rfl ?_
      intro p e s m args below meth c C hret hlocks hT
      refine a_aload_n C dL_proposeCap_0 2 rfl ?_
      refine a_iconst C dL_proposeCap_1 rfl ?_
      refine a_aload_n C dL_proposeCap_2 0 rfl ?_
      refine a_iload_n C dL_proposeCap_3 1 rfl ?_
      refine a_callC C (k := 0) (As := [.int a]) (rest := [.int 0, .ref (x_b G + 183)]) (h G) (cwV 1 C.1.2.2.2.2 (gl_up gL_proposeCap_X11_proposeCap) rfl rfl rfl (by decide +kernel) ⟨by dsimp only [x_rm]; omega, by dsimp only [x_rm]; omega⟩) x_k0 (q := (RX11, TX11, 13)) rfl rfl rfl rfl (Nat.le_of_ble_eq_true rfl) dL_proposeCap_4 ⟨Nat.le_of_ble_eq_true rfl, Nat.le_of_ble_eq_true rfl⟩ [⟨0, 16, 19, 13⟩] ⟨0, 16, 22, 15⟩ [] (hT.trans rfl) (fun z hz => by
        cases List.mem_singleton.mp hz
        exact ⟨by decide, "java/lang/IllegalArgumentException", List.mem_append_right _ (by decide +kernel), by decide +kernel⟩) (by decide) (by decide) (List.mem_append_right _ (by decide +kernel)) (by decide +kernel) (fun w => ?_)
      refine a_astore_n C dL_proposeCap_22 (Nat.le_of_ble_eq_true rfl) rfl ?_
      refine a_iconst C dL_proposeCap_23 rfl ?_
      exact a_iretL C rfl hlocks hret dL_proposeCap_24 (by decide) rfl
    · exact absurd (show none = some E from hE) (fun z => by cases z)
theorem w_votesFor (l : Launch) (G : xG) (d d1 : xd) (a : Int32) (k : Nat) (r : Int32) (h : y_C l yX11_votesFor wsX11_votesFor (fun G => [.ref (x_b G + 0), .int a]) ["java/lang/IllegalArgumentException"] k (.int r) d d1) : x_ML G (if k = 0 then x_sl G r.toInt64 else G) l yL_votesFor (wsL_votesFor ++ ws_cl) 11 [.ref (x_b G + 0), .int a, .ref (x_b G + 183)] d (some (.int (nI k))) d1 := by
  obtain ⟨lv, hlv, ⟨rfl, h⟩ | ⟨E, h1, hE, h⟩⟩ := h
  · rw [if_pos rfl]
    refine x_startH (hh := [(0, 9, 12, 13)]) (by decide) rfl rfl (Nat.le_of_ble_eq_true rfl) rfl ?_
    intro p e s m args below meth c C hret hlocks hT
    refine a_aload_n C dL_votesFor_0 2 rfl ?_
    refine a_iconst C dL_votesFor_1 rfl ?_
    refine a_aload_n C dL_votesFor_2 0 rfl ?_
    refine a_iload_n C dL_votesFor_3 1 rfl ?_
    refine a_callV C (k := 0) (As := [.int a]) (rest := [.int 0, .ref (x_b G + 183)]) (h G) (cwV 1 C.1.2.2.2.2 (gl_up gL_votesFor_X11_votesFor) rfl rfl rfl (by decide +kernel) ⟨by dsimp only [x_rm]; omega, by dsimp only [x_rm]; omega⟩) x_k0 (q := (RX11, TX11, 13)) rfl rfl rfl rfl (Nat.le_of_ble_eq_true rfl) dL_votesFor_4 ⟨Nat.le_of_ble_eq_true rfl, Nat.le_of_ble_eq_true rfl⟩ ?_
    refine a_i2l C dL_votesFor_7 ?_
    refine a_last C dL_votesFor_8 ?_
    refine a_goto (C.sl _) dL_votesFor_9 (tgt := 15) rfl ?_
    refine a_iconst (C.sl _) dL_votesFor_15 rfl ?_
    refine a_widen (Nat.zero_le 1) (Nat.zero_le 6) ?_
    exact a_iretL (C.sl _) rfl hlocks hret dL_votesFor_16 (by decide) rfl
  · obtain ⟨k, rfl⟩ : ∃ j, k = j + 1 := ⟨k - 1, by omega⟩
    rw [if_neg (by omega)]
    rcases k with _ | k
    · injection (show some "java/lang/IllegalArgumentException" = some E from hE) with hE
      subst hE
      refine x_startH (hh := [(0, 9, 12, 13)]) (by decide) rfl rfl (Nat.le_of_ble_eq_true rfl) rfl ?_
      intro p e s m args below meth c C hret hlocks hT
      refine a_aload_n C dL_votesFor_0 2 rfl ?_
      refine a_iconst C dL_votesFor_1 rfl ?_
      refine a_aload_n C dL_votesFor_2 0 rfl ?_
      refine a_iload_n C dL_votesFor_3 1 rfl ?_
      refine a_callC C (k := 0) (As := [.int a]) (rest := [.int 0, .ref (x_b G + 183)]) (h G) (cwV 1 C.1.2.2.2.2 (gl_up gL_votesFor_X11_votesFor) rfl rfl rfl (by decide +kernel) ⟨by dsimp only [x_rm]; omega, by dsimp only [x_rm]; omega⟩) x_k0 (q := (RX11, TX11, 13)) rfl rfl rfl rfl (Nat.le_of_ble_eq_true rfl) dL_votesFor_4 ⟨Nat.le_of_ble_eq_true rfl, Nat.le_of_ble_eq_true rfl⟩ [] ⟨0, 9, 12, 13⟩ [] (hT.trans rfl) (fun z hz => absurd hz List.not_mem_nil) (by decide) (by decide) (List.mem_append_right _ (by decide +kernel)) (by decide +kernel) (fun w => ?_)
      refine a_astore_n C dL_votesFor_12 (Nat.le_of_ble_eq_true rfl) rfl ?_
      refine a_iconst C dL_votesFor_13 rfl ?_
      exact a_iretL C rfl hlocks hret dL_votesFor_14 (by decide) rfl
    · exact absurd (show none = some E from hE) (fun z => by cases z)
theorem w_lowestCap (l : Launch) (G : xG) (d d1 : xd) (k : Nat) (r : Int32) (h : y_C l yX11_lowestCap wsX11_lowestCap (fun G => [.ref (x_b G + 0)]) ["java/util/NoSuchElementException"] k (.int r) d d1) : x_ML G (if k = 0 then x_sl G r.toInt64 else G) l yL_lowestCap (wsL_lowestCap ++ ws_cl) 11 [.ref (x_b G + 0), .ref (x_b G + 183)] d (some (.int (nI k))) d1 := by
  obtain ⟨lv, hlv, ⟨rfl, h⟩ | ⟨E, h1, hE, h⟩⟩ := h
  · rw [if_pos rfl]
    refine x_startH (hh := [(0, 8, 11, 124)]) (by decide) rfl rfl (Nat.le_of_ble_eq_true rfl) rfl ?_
    intro p e s m args below meth c C hret hlocks hT
    refine a_aload_n C dL_lowestCap_0 1 rfl ?_
    refine a_iconst C dL_lowestCap_1 rfl ?_
    refine a_aload_n C dL_lowestCap_2 0 rfl ?_
    refine a_callV C (k := 0) (As := []) (rest := [.int 0, .ref (x_b G + 183)]) (h G) (cwV 0 C.1.2.2.2.2 (gl_up gL_lowestCap_X11_lowestCap) rfl rfl rfl (by decide +kernel) ⟨by dsimp only [x_rm]; omega, by dsimp only [x_rm]; omega⟩) x_k0 (q := (RX11, TX11, 13)) rfl rfl rfl rfl (Nat.le_of_ble_eq_true rfl) dL_lowestCap_3 ⟨Nat.le_of_ble_eq_true rfl, Nat.le_of_ble_eq_true rfl⟩ ?_
    refine a_i2l C dL_lowestCap_6 ?_
    refine a_last C dL_lowestCap_7 ?_
    refine a_goto (C.sl _) dL_lowestCap_8 (tgt := 14) rfl ?_
    refine a_iconst (C.sl _) dL_lowestCap_14 rfl ?_
    refine a_widen (Nat.zero_le 1) (Nat.zero_le 6) ?_
    exact a_iretL (C.sl _) rfl hlocks hret dL_lowestCap_15 (by decide) rfl
  · obtain ⟨k, rfl⟩ : ∃ j, k = j + 1 := ⟨k - 1, by omega⟩
    rw [if_neg (by omega)]
    rcases k with _ | k
    · injection (show some "java/util/NoSuchElementException" = some E from hE) with hE
      subst hE
      refine x_startH (hh := [(0, 8, 11, 124)]) (by decide) rfl rfl (Nat.le_of_ble_eq_true rfl) rfl ?_
      intro p e s m args below meth c C hret hlocks hT
      refine a_aload_n C dL_lowestCap_0 1 rfl ?_
      refine a_iconst C dL_lowestCap_1 rfl ?_
      refine a_aload_n C dL_lowestCap_2 0 rfl ?_
      refine a_callC C (k := 0) (As := []) (rest := [.int 0, .ref (x_b G + 183)]) (h G) (cwV 0 C.1.2.2.2.2 (gl_up gL_lowestCap_X11_lowestCap) rfl rfl rfl (by decide +kernel) ⟨by dsimp only [x_rm]; omega, by dsimp only [x_rm]; omega⟩) x_k0 (q := (RX11, TX11, 13)) rfl rfl rfl rfl (Nat.le_of_ble_eq_true rfl) dL_lowestCap_3 ⟨Nat.le_of_ble_eq_true rfl, Nat.le_of_ble_eq_true rfl⟩ [] ⟨0, 8, 11, 124⟩ [] (hT.trans rfl) (fun z hz => absurd hz List.not_mem_nil) (by decide) (by decide) (List.mem_append_right _ (by decide +kernel)) (by decide +kernel) (fun w => ?_)
      refine a_astore_n C dL_lowestCap_11 (Nat.le_of_ble_eq_true rfl) rfl ?_
      refine a_iconst C dL_lowestCap_12 rfl ?_
      exact a_iretL C rfl hlocks hret dL_lowestCap_13 (by decide) rfl
    · exact absurd (show none = some E from hE) (fun z => by cases z)
theorem w_richestLamp (l : Launch) (G : xG) (d d1 : xd) (a : Int32) (k : Nat) (r : Int32) (h : y_C l yX11_richestLamp wsX11_richestLamp (fun G => [.ref (x_b G + 0), .int a]) ["java/util/NoSuchElementException"] k (.int r) d d1) : x_ML G (if k = 0 then x_sl G r.toInt64 else G) l yL_richestLamp (wsL_richestLamp ++ ws_cl) 11 [.ref (x_b G + 0), .int a, .ref (x_b G + 183)] d (some (.int (nI k))) d1 := by
  obtain ⟨lv, hlv, ⟨rfl, h⟩ | ⟨E, h1, hE, h⟩⟩ := h
  · rw [if_pos rfl]
    refine x_startH (hh := [(0, 9, 12, 124)]) (by decide) rfl rfl (Nat.le_of_ble_eq_true rfl) rfl ?_
    intro p e s m args below meth c C hret hlocks hT
    refine a_aload_n C dL_richestLamp_0 2 rfl ?_
    refine a_iconst C dL_richestLamp_1 rfl ?_
    refine a_aload_n C dL_richestLamp_2 0 rfl ?_
    refine a_iload_n C dL_richestLamp_3 1 rfl ?_
    refine a_callV C (k := 0) (As := [.int a]) (rest := [.int 0, .ref (x_b G + 183)]) (h G) (cwV 1 C.1.2.2.2.2 (gl_up gL_richestLamp_X11_richestLamp) rfl rfl rfl (by decide +kernel) ⟨by dsimp only [x_rm]; omega, by dsimp only [x_rm]; omega⟩) x_k0 (q := (RX11, TX11, 13)) rfl rfl rfl rfl (Nat.le_of_ble_eq_true rfl) dL_richestLamp_4 ⟨Nat.le_of_ble_eq_true rfl, Nat.le_of_ble_eq_true rfl⟩ ?_
    refine a_i2l C dL_richestLamp_7 ?_
    refine a_last C dL_richestLamp_8 ?_
    refine a_goto (C.sl _) dL_richestLamp_9 (tgt := 15) rfl ?_
    refine a_iconst (C.sl _) dL_richestLamp_15 rfl ?_
    refine a_widen (Nat.zero_le 1) (Nat.zero_le 6) ?_
    exact a_iretL (C.sl _) rfl hlocks hret dL_richestLamp_16 (by decide) rfl
  · obtain ⟨k, rfl⟩ : ∃ j, k = j + 1 := ⟨k - 1, by omega⟩
    rw [if_neg (by omega)]
    rcases k with _ | k
    · injection (show some "java/util/NoSuchElementException" = some E from hE) with hE
      subst hE
      refine x_startH (hh := [(0, 9, 12, 124)]) (by decide) rfl rfl (Nat.le_of_ble_eq_true rfl) rfl ?_
      intro p e s m args below meth c C hret hlocks hT
      refine a_aload_n C dL_richestLamp_0 2 rfl ?_
      refine a_iconst C dL_richestLamp_1 rfl ?_
      refine a_aload_n C dL_richestLamp_2 0 rfl ?_
      refine a_iload_n C dL_richestLamp_3 1 rfl ?_
      refine a_callC C (k := 0) (As := [.int a]) (rest := [.int 0, .ref (x_b G + 183)]) (h G) (cwV 1 C.1.2.2.2.2 (gl_up gL_richestLamp_X11_richestLamp) rfl rfl rfl (by decide +kernel) ⟨by dsimp only [x_rm]; omega, by dsimp only [x_rm]; omega⟩) x_k0 (q := (RX11, TX11, 13)) rfl rfl rfl rfl (Nat.le_of_ble_eq_true rfl) dL_richestLamp_4 ⟨Nat.le_of_ble_eq_true rfl, Nat.le_of_ble_eq_true rfl⟩ [] ⟨0, 9, 12, 124⟩ [] (hT.trans rfl) (fun z hz => absurd hz List.not_mem_nil) (by decide) (by decide) (List.mem_append_right _ (by decide +kernel)) (by decide +kernel) (fun w => ?_)
      refine a_astore_n C dL_richestLamp_12 (Nat.le_of_ble_eq_true rfl) rfl ?_
      refine a_iconst C dL_richestLamp_13 rfl ?_
      exact a_iretL C rfl hlocks hret dL_richestLamp_14 (by decide) rfl
    · exact absurd (show none = some E from hE) (fun z => by cases z)
theorem w_longestLamp (l : Launch) (G : xG) (d d1 : xd) (a : Int32) (k : Nat) (r : Int32) (h : y_C l yX11_longestLamp wsX11_longestLamp (fun G => [.ref (x_b G + 0), .int a]) ["java/util/NoSuchElementException"] k (.int r) d d1) : x_ML G (if k = 0 then x_sl G r.toInt64 else G) l yL_longestLamp (wsL_longestLamp ++ ws_cl) 11 [.ref (x_b G + 0), .int a, .ref (x_b G + 183)] d (some (.int (nI k))) d1 := by
  obtain ⟨lv, hlv, ⟨rfl, h⟩ | ⟨E, h1, hE, h⟩⟩ := h
  · rw [if_pos rfl]
    refine x_startH (hh := [(0, 9, 12, 124)]) (by decide) rfl rfl (Nat.le_of_ble_eq_true rfl) rfl ?_
    intro p e s m args below meth c C hret hlocks hT
    refine a_aload_n C dL_longestLamp_0 2 rfl ?_
    refine a_iconst C dL_longestLamp_1 rfl ?_
    refine a_aload_n C dL_longestLamp_2 0 rfl ?_
    refine a_iload_n C dL_longestLamp_3 1 rfl ?_
    refine a_callV C (k := 0) (As := [.int a]) (rest := [.int 0, .ref (x_b G + 183)]) (h G) (cwV 1 C.1.2.2.2.2 (gl_up gL_longestLamp_X11_longestLamp) rfl rfl rfl (by decide +kernel) ⟨by dsimp only [x_rm]; omega, by dsimp only [x_rm]; omega⟩) x_k0 (q := (RX11, TX11, 13)) rfl rfl rfl rfl (Nat.le_of_ble_eq_true rfl) dL_longestLamp_4 ⟨Nat.le_of_ble_eq_true rfl, Nat.le_of_ble_eq_true rfl⟩ ?_
    refine a_i2l C dL_longestLamp_7 ?_
    refine a_last C dL_longestLamp_8 ?_
    refine a_goto (C.sl _) dL_longestLamp_9 (tgt := 15) rfl ?_
    refine a_iconst (C.sl _) dL_longestLamp_15 rfl ?_
    refine a_widen (Nat.zero_le 1) (Nat.zero_le 6) ?_
    exact a_iretL (C.sl _) rfl hlocks hret dL_longestLamp_16 (by decide) rfl
  · obtain ⟨k, rfl⟩ : ∃ j, k = j + 1 := ⟨k - 1, by omega⟩
    rw [if_neg (by omega)]
    rcases k with _ | k
    · injection (show some "java/util/NoSuchElementException" = some E from hE) with hE
      subst hE
      refine x_startH (hh := [(0, 9, 12, 124)]) (by decide) rfl rfl (Nat.le_of_ble_eq_true rfl) rfl ?_
      intro p e s m args below meth c C hret hlocks hT
      refine a_aload_n C dL_longestLamp_0 2 rfl ?_
      refine a_iconst C dL_longestLamp_1 rfl ?_
      refine a_aload_n C dL_longestLamp_2 0 rfl ?_
      refine a_iload_n C dL_longestLamp_3 1 rfl ?_
      refine a_callC C (k := 0) (As := [.int a]) (rest := [.int 0, .ref (x_b G + 183)]) (h G) (cwV 1 C.1.2.2.2.2 (gl_up gL_longestLamp_X11_longestLamp) rfl rfl rfl (by decide +kernel) ⟨by dsimp only [x_rm]; omega, by dsimp only [x_rm]; omega⟩) x_k0 (q := (RX11, TX11, 13)) rfl rfl rfl rfl (Nat.le_of_ble_eq_true rfl) dL_longestLamp_4 ⟨Nat.le_of_ble_eq_true rfl, Nat.le_of_ble_eq_true rfl⟩ [] ⟨0, 9, 12, 124⟩ [] (hT.trans rfl) (fun z hz => absurd hz List.not_mem_nil) (by decide) (by decide) (List.mem_append_right _ (by decide +kernel)) (by decide +kernel) (fun w => ?_)
      refine a_astore_n C dL_longestLamp_12 (Nat.le_of_ble_eq_true rfl) rfl ?_
      refine a_iconst C dL_longestLamp_13 rfl ?_
      exact a_iretL C rfl hlocks hret dL_longestLamp_14 (by decide) rfl
    · exact absurd (show none = some E from hE) (fun z => by cases z)
theorem w_writeLamp (l : Launch) (G : xG) (d d1 : xd) (a : Int32) (k : Nat) (r : Int32) (h : y_C l yX11_writeLamp wsX11_writeLamp (fun G => [.ref (x_b G + 0), .int a]) ["java/lang/IndexOutOfBoundsException"] k (.int r) d d1) : x_ML G (if k = 0 then x_sl G r.toInt64 else G) l yL_writeLamp (wsL_writeLamp ++ ws_cl) 11 [.ref (x_b G + 0), .int a, .ref (x_b G + 183)] d (some (.int (nI k))) d1 := by
  obtain ⟨lv, hlv, ⟨rfl, h⟩ | ⟨E, h1, hE, h⟩⟩ := h
  · rw [if_pos rfl]
    refine x_startH (hh := [(0, 9, 12, 21)]) (by decide) rfl rfl (Nat.le_of_ble_eq_true rfl) rfl ?_
    intro p e s m args below meth c C hret hlocks hT
    refine a_aload_n C dL_writeLamp_0 2 rfl ?_
    refine a_iconst C dL_writeLamp_1 rfl ?_
    refine a_aload_n C dL_writeLamp_2 0 rfl ?_
    refine a_iload_n C dL_writeLamp_3 1 rfl ?_
    refine a_callV C (k := 0) (As := [.int a]) (rest := [.int 0, .ref (x_b G + 183)]) (h G) (cwV 1 C.1.2.2.2.2 (gl_up gL_writeLamp_X11_writeLamp) rfl rfl rfl (by decide +kernel) ⟨by dsimp only [x_rm]; omega, by dsimp only [x_rm]; omega⟩) x_k0 (q := (RX11, TX11, 13)) rfl rfl rfl rfl (Nat.le_of_ble_eq_true rfl) dL_writeLamp_4 ⟨Nat.le_of_ble_eq_true rfl, Nat.le_of_ble_eq_true rfl⟩ ?_
    refine a_i2l C dL_writeLamp_7 ?_
    refine a_last C dL_writeLamp_8 ?_
    refine a_goto (C.sl _) dL_writeLamp_9 (tgt := 15) rfl ?_
    refine a_iconst (C.sl _) dL_writeLamp_15 rfl ?_
    refine a_widen (Nat.zero_le 1) (Nat.zero_le 6) ?_
    exact a_iretL (C.sl _) rfl hlocks hret dL_writeLamp_16 (by decide) rfl
  · obtain ⟨k, rfl⟩ : ∃ j, k = j + 1 := ⟨k - 1, by omega⟩
    rw [if_neg (by omega)]
    rcases k with _ | k
    · injection (show some "java/lang/IndexOutOfBoundsException" = some E from hE) with hE
      subst hE
      refine x_startH (hh := [(0, 9, 12, 21)]) (by decide) rfl rfl (Nat.le_of_ble_eq_true rfl) rfl ?_
      intro p e s m args below meth c C hret hlocks hT
      refine a_aload_n C dL_writeLamp_0 2 rfl ?_
      refine a_iconst C dL_writeLamp_1 rfl ?_
      refine a_aload_n C dL_writeLamp_2 0 rfl ?_
      refine a_iload_n C dL_writeLamp_3 1 rfl ?_
      refine a_callC C (k := 0) (As := [.int a]) (rest := [.int 0, .ref (x_b G + 183)]) (h G) (cwV 1 C.1.2.2.2.2 (gl_up gL_writeLamp_X11_writeLamp) rfl rfl rfl (by decide +kernel) ⟨by dsimp only [x_rm]; omega, by dsimp only [x_rm]; omega⟩) x_k0 (q := (RX11, TX11, 13)) rfl rfl rfl rfl (Nat.le_of_ble_eq_true rfl) dL_writeLamp_4 ⟨Nat.le_of_ble_eq_true rfl, Nat.le_of_ble_eq_true rfl⟩ [] ⟨0, 9, 12, 21⟩ [] (hT.trans rfl) (fun z hz => absurd hz List.not_mem_nil) (by decide) (by decide) (List.mem_append_right _ (by decide +kernel)) (by decide +kernel) (fun w => ?_)
      refine a_astore_n C dL_writeLamp_12 (Nat.le_of_ble_eq_true rfl) rfl ?_
      refine a_iconst C dL_writeLamp_13 rfl ?_
      exact a_iretL C rfl hlocks hret dL_writeLamp_14 (by decide) rfl
    · exact absurd (show none = some E from hE) (fun z => by cases z)
theorem w_lineAt (l : Launch) (G : xG) (d d1 : xd) (a : Int32) (k : Nat) (r : Int32) (h : y_C l yX11_lineAt wsX11_lineAt (fun G => [.ref (x_b G + 0), .int a]) ["java/lang/IndexOutOfBoundsException"] k (.int r) d d1) : x_ML G (if k = 0 then x_sl G r.toInt64 else G) l yL_lineAt (wsL_lineAt ++ ws_cl) 11 [.ref (x_b G + 0), .int a, .ref (x_b G + 183)] d (some (.int (nI k))) d1 := by
  obtain ⟨lv, hlv, ⟨rfl, h⟩ | ⟨E, h1, hE, h⟩⟩ := h
  · rw [if_pos rfl]
    refine x_startH (hh := [(0, 9, 12, 21)]) (by decide) rfl rfl (Nat.le_of_ble_eq_true rfl) rfl ?_
    intro p e s m args below meth c C hret hlocks hT
    refine a_aload_n C dL_lineAt_0 2 rfl ?_
    refine a_iconst C dL_lineAt_1 rfl ?_
    refine a_aload_n C dL_lineAt_2 0 rfl ?_
    refine a_iload_n C dL_lineAt_3 1 rfl ?_
    refine a_callV C (k := 0) (As := [.int a]) (rest := [.int 0, .ref (x_b G + 183)]) (h G) (cwV 1 C.1.2.2.2.2 (gl_up gL_lineAt_X11_lineAt) rfl rfl rfl (by decide +kernel) ⟨by dsimp only [x_rm]; omega, by dsimp only [x_rm]; omega⟩) x_k0 (q := (RX11, TX11, 13)) rfl rfl rfl rfl (Nat.le_of_ble_eq_true rfl) dL_lineAt_4 ⟨Nat.le_of_ble_eq_true rfl, Nat.le_of_ble_eq_true rfl⟩ ?_
    refine a_i2l C dL_lineAt_7 ?_
    refine a_last C dL_lineAt_8 ?_
    refine a_goto (C.sl _) dL_lineAt_9 (tgt := 15) rfl ?_
    refine a_iconst (C.sl _) dL_lineAt_15 rfl ?_
    refine a_widen (Nat.zero_le 1) (Nat.zero_le 6) ?_
    exact a_iretL (C.sl _) rfl hlocks hret dL_lineAt_16 (by decide) rfl
  · obtain ⟨k, rfl⟩ : ∃ j, k = j + 1 := ⟨k - 1, by omega⟩
    rw [if_neg (by omega)]
    rcases k with _ | k
    · injection (show some "java/lang/IndexOutOfBoundsException" = some E from hE) with hE
      subst hE
      refine x_startH (hh := [(0, 9, 12, 21)]) (by decide) rfl rfl (Nat.le_of_ble_eq_true rfl) rfl ?_
      intro p e s m args below meth c C hret hlocks hT
      refine a_aload_n C dL_lineAt_0 2 rfl ?_
      refine a_iconst C dL_lineAt_1 rfl ?_
      refine a_aload_n C dL_lineAt_2 0 rfl ?_
      refine a_iload_n C dL_lineAt_3 1 rfl ?_
      refine a_callC C (k := 0) (As := [.int a]) (rest := [.int 0, .ref (x_b G + 183)]) (h G) (cwV 1 C.1.2.2.2.2 (gl_up gL_lineAt_X11_lineAt) rfl rfl rfl (by decide +kernel) ⟨by dsimp only [x_rm]; omega, by dsimp only [x_rm]; omega⟩) x_k0 (q := (RX11, TX11, 13)) rfl rfl rfl rfl (Nat.le_of_ble_eq_true rfl) dL_lineAt_4 ⟨Nat.le_of_ble_eq_true rfl, Nat.le_of_ble_eq_true rfl⟩ [] ⟨0, 9, 12, 21⟩ [] (hT.trans rfl) (fun z hz => absurd hz List.not_mem_nil) (by decide) (by decide) (List.mem_append_right _ (by decide +kernel)) (by decide +kernel) (fun w => ?_)
      refine a_astore_n C dL_lineAt_12 (Nat.le_of_ble_eq_true rfl) rfl ?_
      refine a_iconst C dL_lineAt_13 rfl ?_
      exact a_iretL C rfl hlocks hret dL_lineAt_14 (by decide) rfl
    · exact absurd (show none = some E from hE) (fun z => by cases z)
theorem w_meanOil (l : Launch) (G : xG) (d d1 : xd) (k : Nat) (r : UInt64) (h : y_C l yX11_meanOil wsX11_meanOil (fun G => [.ref (x_b G + 0)]) ["java/lang/ArithmeticException"] k (.double r) d d1) : x_ML G (if k = 0 then x_su G r else G) l yL_meanOil (wsL_meanOil ++ ws_cl) 11 [.ref (x_b G + 0), .ref (x_b G + 184)] d (some (.int (nI k))) d1 := by
  obtain ⟨lv, hlv, ⟨rfl, h⟩ | ⟨E, h1, hE, h⟩⟩ := h
  · rw [if_pos rfl]
    refine x_startH (hh := [(0, 7, 10, 143)]) (by decide) rfl rfl (Nat.le_of_ble_eq_true rfl) rfl ?_
    intro p e s m args below meth c C hret hlocks hT
    refine a_aload_n C dL_meanOil_0 1 rfl ?_
    refine a_iconst C dL_meanOil_1 rfl ?_
    refine a_aload_n C dL_meanOil_2 0 rfl ?_
    refine a_callV C (k := 0) (As := []) (rest := [.int 0, .ref (x_b G + 184)]) (h G) (cwV 0 C.1.2.2.2.2 (gl_up gL_meanOil_X11_meanOil) rfl rfl rfl (by decide +kernel) ⟨by dsimp only [x_rm]; omega, by dsimp only [x_rm]; omega⟩) x_k0 (q := (RX11, TX11, 13)) rfl rfl rfl rfl (Nat.le_of_ble_eq_true rfl) dL_meanOil_3 ⟨Nat.le_of_ble_eq_true rfl, Nat.le_of_ble_eq_true rfl⟩ ?_
    refine a_dast C dL_meanOil_6 ?_
    refine a_goto (C.su _) dL_meanOil_7 (tgt := 13) rfl ?_
    refine a_iconst (C.su _) dL_meanOil_13 rfl ?_
    refine a_widen (Nat.zero_le 1) (Nat.zero_le 6) ?_
    exact a_iretL (C.su _) rfl hlocks hret dL_meanOil_14 (by decide) rfl
  · obtain ⟨k, rfl⟩ : ∃ j, k = j + 1 := ⟨k - 1, by omega⟩
    rw [if_neg (by omega)]
    rcases k with _ | k
    · injection (show some "java/lang/ArithmeticException" = some E from hE) with hE
      subst hE
      refine x_startH (hh := [(0, 7, 10, 143)]) (by decide) rfl rfl (Nat.le_of_ble_eq_true rfl) rfl ?_
      intro p e s m args below meth c C hret hlocks hT
      refine a_aload_n C dL_meanOil_0 1 rfl ?_
      refine a_iconst C dL_meanOil_1 rfl ?_
      refine a_aload_n C dL_meanOil_2 0 rfl ?_
      refine a_callC C (k := 0) (As := []) (rest := [.int 0, .ref (x_b G + 184)]) (h G) (cwV 0 C.1.2.2.2.2 (gl_up gL_meanOil_X11_meanOil) rfl rfl rfl (by decide +kernel) ⟨by dsimp only [x_rm]; omega, by dsimp only [x_rm]; omega⟩) x_k0 (q := (RX11, TX11, 13)) rfl rfl rfl rfl (Nat.le_of_ble_eq_true rfl) dL_meanOil_3 ⟨Nat.le_of_ble_eq_true rfl, Nat.le_of_ble_eq_true rfl⟩ [] ⟨0, 7, 10, 143⟩ [] (hT.trans rfl) (fun z hz => absurd hz List.not_mem_nil) (by decide) (by decide) (List.mem_append_right _ (by decide +kernel)) (by decide +kernel) (fun w => ?_)
      refine a_astore_n C dL_meanOil_10 (Nat.le_of_ble_eq_true rfl) rfl ?_
      refine a_iconst C dL_meanOil_11 rfl ?_
      exact a_iretL C rfl hlocks hret dL_meanOil_12 (by decide) rfl
    · exact absurd (show none = some E from hE) (fun z => by cases z)
theorem w_type (l : Launch) (G : xG) (d d1 : xd) (a : Int32) (k : Nat) (r : Int32) (h : y_C l yX11_type wsX11_type (fun G => [.ref (x_b G + 0), .int a]) ["java/lang/IllegalArgumentException", "java/lang/IllegalStateException"] k (.int r) d d1) : x_ML G (if k = 0 then x_sl G r.toInt64 else G) l yL_type (wsL_type ++ ws_cl) 11 [.ref (x_b G + 0), .int a, .ref (x_b G + 183)] d (some (.int (nI k))) d1 := by
  obtain ⟨lv, hlv, ⟨rfl, h⟩ | ⟨E, h1, hE, h⟩⟩ := h
  · rw [if_pos rfl]
    refine x_startH (hh := [(0, 9, 12, 13), (0, 9, 15, 15)]) (by decide) rfl rfl (Nat.le_of_ble_eq_true rfl) rfl ?_
    intro p e s m args below meth c C hret hlocks hT
    refine a_aload_n C dL_type_0 2 rfl ?_
    refine a_iconst C dL_type_1 rfl ?_
    refine a_aload_n C dL_type_2 0 rfl ?_
    refine a_iload_n C dL_type_3 1 rfl ?_
    refine a_callV C (k := 0) (As := [.int a]) (rest := [.int 0, .ref (x_b G + 183)]) (h G) (cwV 1 C.1.2.2.2.2 (gl_up gL_type_X11_type) rfl rfl rfl (by decide +kernel) ⟨by dsimp only [x_rm]; omega, by dsimp only [x_rm]; omega⟩) x_k0 (q := (RX11, TX11, 13)) rfl rfl rfl rfl (Nat.le_of_ble_eq_true rfl) dL_type_4 ⟨Nat.le_of_ble_eq_true rfl, Nat.le_of_ble_eq_true rfl⟩ ?_
    refine a_i2l C dL_type_7 ?_
    refine a_last C dL_type_8 ?_
    refine a_goto (C.sl _) dL_type_9 (tgt := 18) rfl ?_
    refine a_iconst (C.sl _) dL_type_18 rfl ?_
    refine a_widen (Nat.zero_le 1) (Nat.zero_le 6) ?_
    exact a_iretL (C.sl _) rfl hlocks hret dL_type_19 (by decide) rfl
  · obtain ⟨k, rfl⟩ : ∃ j, k = j + 1 := ⟨k - 1, by omega⟩
    rw [if_neg (by omega)]
    rcases k with _ | _ | k
    · injection (show some "java/lang/IllegalArgumentException" = some E from hE) with hE
      subst hE
      refine x_startH (hh := [(0, 9, 12, 13), (0, 9, 15, 15)]) (by decide) rfl rfl (Nat.le_of_ble_eq_true rfl) rfl ?_
      intro p e s m args below meth c C hret hlocks hT
      refine a_aload_n C dL_type_0 2 rfl ?_
      refine a_iconst C dL_type_1 rfl ?_
      refine a_aload_n C dL_type_2 0 rfl ?_
      refine a_iload_n C dL_type_3 1 rfl ?_
      refine a_callC C (k := 0) (As := [.int a]) (rest := [.int 0, .ref (x_b G + 183)]) (h G) (cwV 1 C.1.2.2.2.2 (gl_up gL_type_X11_type) rfl rfl rfl (by decide +kernel) ⟨by dsimp only [x_rm]; omega, by dsimp only [x_rm]; omega⟩) x_k0 (q := (RX11, TX11, 13)) rfl rfl rfl rfl (Nat.le_of_ble_eq_true rfl) dL_type_4 ⟨Nat.le_of_ble_eq_true rfl, Nat.le_of_ble_eq_true rfl⟩ [] ⟨0, 9, 12, 13⟩ [⟨0, 9, 15, 15⟩] (hT.trans rfl) (fun z hz => absurd hz List.not_mem_nil) (by decide) (by decide) (List.mem_append_right _ (by decide +kernel)) (by decide +kernel) (fun w => ?_)
      refine a_astore_n C dL_type_12 (Nat.le_of_ble_eq_true rfl) rfl ?_
      refine a_iconst C dL_type_13 rfl ?_
      exact a_iretL C rfl hlocks hret dL_type_14 (by decide) rfl
    · injection (show some "java/lang/IllegalStateException" = some E from hE) with hE
      subst hE
      refine x_startH (hh := [(0, 9, 12, 13), (0, 9, 15, 15)]) (by decide) rfl rfl (Nat.le_of_ble_eq_true rfl) rfl ?_
      intro p e s m args below meth c C hret hlocks hT
      refine a_aload_n C dL_type_0 2 rfl ?_
      refine a_iconst C dL_type_1 rfl ?_
      refine a_aload_n C dL_type_2 0 rfl ?_
      refine a_iload_n C dL_type_3 1 rfl ?_
      refine a_callC C (k := 0) (As := [.int a]) (rest := [.int 0, .ref (x_b G + 183)]) (h G) (cwV 1 C.1.2.2.2.2 (gl_up gL_type_X11_type) rfl rfl rfl (by decide +kernel) ⟨by dsimp only [x_rm]; omega, by dsimp only [x_rm]; omega⟩) x_k0 (q := (RX11, TX11, 13)) rfl rfl rfl rfl (Nat.le_of_ble_eq_true rfl) dL_type_4 ⟨Nat.le_of_ble_eq_true rfl, Nat.le_of_ble_eq_true rfl⟩ [⟨0, 9, 12, 13⟩] ⟨0, 9, 15, 15⟩ [] (hT.trans rfl) (fun z hz => by
        cases List.mem_singleton.mp hz
        exact ⟨by decide, "java/lang/IllegalArgumentException", List.mem_append_right _ (by decide +kernel), by decide +kernel⟩) (by decide) (by decide) (List.mem_append_right _ (by decide +kernel)) (by decide +kernel) (fun w => ?_)
      refine a_astore_n C dL_type_15 (Nat.le_of_ble_eq_true rfl) rfl ?_
      refine a_iconst C dL_type_16 rfl ?_
      exact a_iretL C rfl hlocks hret dL_type_17 (by decide) rfl
    · exact absurd (show none = some E from hE) (fun z => by cases z)
theorem w_execute (l : Launch) (G : xG) (d d1 : xd) (k : Nat) (r : Int32) (h : y_C l yX11_execute wsX11_execute (fun G => [.ref (x_b G + 0)]) ["java/lang/IllegalArgumentException", "java/lang/IllegalStateException"] k (.int r) d d1) : x_ML G (if k = 0 then x_sl G r.toInt64 else G) l yL_execute (wsL_execute ++ ws_cl) 11 [.ref (x_b G + 0), .ref (x_b G + 183)] d (some (.int (nI k))) d1 := by
  obtain ⟨lv, hlv, ⟨rfl, h⟩ | ⟨E, h1, hE, h⟩⟩ := h
  · rw [if_pos rfl]
    refine x_startH (hh := [(0, 8, 11, 13), (0, 8, 14, 15)]) (by decide) rfl rfl (Nat.le_of_ble_eq_true rfl) rfl ?_
    intro p e s m args below meth c C hret hlocks hT
    refine a_aload_n C dL_execute_0 1 rfl ?_
    refine a_iconst C dL_execute_1 rfl ?_
    refine a_aload_n C dL_execute_2 0 rfl ?_
    refine a_callV C (k := 0) (As := []) (rest := [.int 0, .ref (x_b G + 183)]) (h G) (cwV 0 C.1.2.2.2.2 (gl_up gL_execute_X11_execute) rfl rfl rfl (by decide +kernel) ⟨by dsimp only [x_rm]; omega, by dsimp only [x_rm]; omega⟩) x_k0 (q := (RX11, TX11, 13)) rfl rfl rfl rfl (Nat.le_of_ble_eq_true rfl) dL_execute_3 ⟨Nat.le_of_ble_eq_true rfl, Nat.le_of_ble_eq_true rfl⟩ ?_
    refine a_i2l C dL_execute_6 ?_
    refine a_last C dL_execute_7 ?_
    refine a_goto (C.sl _) dL_execute_8 (tgt := 17) rfl ?_
    refine a_iconst (C.sl _) dL_execute_17 rfl ?_
    refine a_widen (Nat.zero_le 1) (Nat.zero_le 6) ?_
    exact a_iretL (C.sl _) rfl hlocks hret dL_execute_18 (by decide) rfl
  · obtain ⟨k, rfl⟩ : ∃ j, k = j + 1 := ⟨k - 1, by omega⟩
    rw [if_neg (by omega)]
    rcases k with _ | _ | k
    · injection (show some "java/lang/IllegalArgumentException" = some E from hE) with hE
      subst hE
      refine x_startH (hh := [(0, 8, 11, 13), (0, 8, 14, 15)]) (by decide) rfl rfl (Nat.le_of_ble_eq_true rfl) rfl ?_
      intro p e s m args below meth c C hret hlocks hT
      refine a_aload_n C dL_execute_0 1 rfl ?_
      refine a_iconst C dL_execute_1 rfl ?_
      refine a_aload_n C dL_execute_2 0 rfl ?_
      refine a_callC C (k := 0) (As := []) (rest := [.int 0, .ref (x_b G + 183)]) (h G) (cwV 0 C.1.2.2.2.2 (gl_up gL_execute_X11_execute) rfl rfl rfl (by decide +kernel) ⟨by dsimp only [x_rm]; omega, by dsimp only [x_rm]; omega⟩) x_k0 (q := (RX11, TX11, 13)) rfl rfl rfl rfl (Nat.le_of_ble_eq_true rfl) dL_execute_3 ⟨Nat.le_of_ble_eq_true rfl, Nat.le_of_ble_eq_true rfl⟩ [] ⟨0, 8, 11, 13⟩ [⟨0, 8, 14, 15⟩] (hT.trans rfl) (fun z hz => absurd hz List.not_mem_nil) (by decide) (by decide) (List.mem_append_right _ (by decide +kernel)) (by decide +kernel) (fun w => ?_)
      refine a_astore_n C dL_execute_11 (Nat.le_of_ble_eq_true rfl) rfl ?_
      refine a_iconst C dL_execute_12 rfl ?_
      exact a_iretL C rfl hlocks hret dL_execute_13 (by decide) rfl
    · injection (show some "java/lang/IllegalStateException" = some E from hE) with hE
      subst hE
      refine x_startH (hh := [(0, 8, 11, 13), (0, 8, 14, 15)]) (by decide) rfl rfl (Nat.le_of_ble_eq_true rfl) rfl ?_
      intro p e s m args below meth c C hret hlocks hT
      refine a_aload_n C dL_execute_0 1 rfl ?_
      refine a_iconst C dL_execute_1 rfl ?_
      refine a_aload_n C dL_execute_2 0 rfl ?_
      refine a_callC C (k := 0) (As := []) (rest := [.int 0, .ref (x_b G + 183)]) (h G) (cwV 0 C.1.2.2.2.2 (gl_up gL_execute_X11_execute) rfl rfl rfl (by decide +kernel) ⟨by dsimp only [x_rm]; omega, by dsimp only [x_rm]; omega⟩) x_k0 (q := (RX11, TX11, 13)) rfl rfl rfl rfl (Nat.le_of_ble_eq_true rfl) dL_execute_3 ⟨Nat.le_of_ble_eq_true rfl, Nat.le_of_ble_eq_true rfl⟩ [⟨0, 8, 11, 13⟩] ⟨0, 8, 14, 15⟩ [] (hT.trans rfl) (fun z hz => by
        cases List.mem_singleton.mp hz
        exact ⟨by decide, "java/lang/IllegalArgumentException", List.mem_append_right _ (by decide +kernel), by decide +kernel⟩) (by decide) (by decide) (List.mem_append_right _ (by decide +kernel)) (by decide +kernel) (fun w => ?_)
      refine a_astore_n C dL_execute_14 (Nat.le_of_ble_eq_true rfl) rfl ?_
      refine a_iconst C dL_execute_15 rfl ?_
      exact a_iretL C rfl hlocks hret dL_execute_16 (by decide) rfl
    · exact absurd (show none = some E from hE) (fun z => by cases z)
theorem w_errorPosition (l : Launch) (G : xG) (d d1 : xd) (k : Nat) (r : Int32) (h : y_C l yX11_errorPosition wsX11_errorPosition (fun G => [.ref (x_b G + 0)]) ["java/util/NoSuchElementException"] k (.int r) d d1) : x_ML G (if k = 0 then x_sl G r.toInt64 else G) l yL_errorPosition (wsL_errorPosition ++ ws_cl) 11 [.ref (x_b G + 0), .ref (x_b G + 183)] d (some (.int (nI k))) d1 := by
  obtain ⟨lv, hlv, ⟨rfl, h⟩ | ⟨E, h1, hE, h⟩⟩ := h
  · rw [if_pos rfl]
    refine x_startH (hh := [(0, 8, 11, 124)]) (by decide) rfl rfl (Nat.le_of_ble_eq_true rfl) rfl ?_
    intro p e s m args below meth c C hret hlocks hT
    refine a_aload_n C dL_errorPosition_0 1 rfl ?_
    refine a_iconst C dL_errorPosition_1 rfl ?_
    refine a_aload_n C dL_errorPosition_2 0 rfl ?_
    refine a_callV C (k := 0) (As := []) (rest := [.int 0, .ref (x_b G + 183)]) (h G) (cwV 0 C.1.2.2.2.2 (gl_up gL_errorPosition_X11_errorPosition) rfl rfl rfl (by decide +kernel) ⟨by dsimp only [x_rm]; omega, by dsimp only [x_rm]; omega⟩) x_k0 (q := (RX11, TX11, 13)) rfl rfl rfl rfl (Nat.le_of_ble_eq_true rfl) dL_errorPosition_3 ⟨Nat.le_of_ble_eq_true rfl, Nat.le_of_ble_eq_true rfl⟩ ?_
    refine a_i2l C dL_errorPosition_6 ?_
    refine a_last C dL_errorPosition_7 ?_
    refine a_goto (C.sl _) dL_errorPosition_8 (tgt := 14) rfl ?_
    refine a_iconst (C.sl _) dL_errorPosition_14 rfl ?_
    refine a_widen (Nat.zero_le 1) (Nat.zero_le 6) ?_
    exact a_iretL (C.sl _) rfl hlocks hret dL_errorPosition_15 (by decide) rfl
  · obtain ⟨k, rfl⟩ : ∃ j, k = j + 1 := ⟨k - 1, by omega⟩
    rw [if_neg (by omega)]
    rcases k with _ | k
    · injection (show some "java/util/NoSuchElementException" = some E from hE) with hE
      subst hE
      refine x_startH (hh := [(0, 8, 11, 124)]) (by decide) rfl rfl (Nat.le_of_ble_eq_true rfl) rfl ?_
      intro p e s m args below meth c C hret hlocks hT
      refine a_aload_n C dL_errorPosition_0 1 rfl ?_
      refine a_iconst C dL_errorPosition_1 rfl ?_
      refine a_aload_n C dL_errorPosition_2 0 rfl ?_
      refine a_callC C (k := 0) (As := []) (rest := [.int 0, .ref (x_b G + 183)]) (h G) (cwV 0 C.1.2.2.2.2 (gl_up gL_errorPosition_X11_errorPosition) rfl rfl rfl (by decide +kernel) ⟨by dsimp only [x_rm]; omega, by dsimp only [x_rm]; omega⟩) x_k0 (q := (RX11, TX11, 13)) rfl rfl rfl rfl (Nat.le_of_ble_eq_true rfl) dL_errorPosition_3 ⟨Nat.le_of_ble_eq_true rfl, Nat.le_of_ble_eq_true rfl⟩ [] ⟨0, 8, 11, 124⟩ [] (hT.trans rfl) (fun z hz => absurd hz List.not_mem_nil) (by decide) (by decide) (List.mem_append_right _ (by decide +kernel)) (by decide +kernel) (fun w => ?_)
      refine a_astore_n C dL_errorPosition_11 (Nat.le_of_ble_eq_true rfl) rfl ?_
      refine a_iconst C dL_errorPosition_12 rfl ?_
      exact a_iretL C rfl hlocks hret dL_errorPosition_13 (by decide) rfl
    · exact absurd (show none = some E from hE) (fun z => by cases z)
theorem w_failedCommand (l : Launch) (G : xG) (d d1 : xd) (k : Nat) (r : Int32) (h : y_C l yX11_failedCommand wsX11_failedCommand (fun G => [.ref (x_b G + 0)]) ["java/util/NoSuchElementException"] k (.int r) d d1) : x_ML G (if k = 0 then x_sl G r.toInt64 else G) l yL_failedCommand (wsL_failedCommand ++ ws_cl) 11 [.ref (x_b G + 0), .ref (x_b G + 183)] d (some (.int (nI k))) d1 := by
  obtain ⟨lv, hlv, ⟨rfl, h⟩ | ⟨E, h1, hE, h⟩⟩ := h
  · rw [if_pos rfl]
    refine x_startH (hh := [(0, 8, 11, 124)]) (by decide) rfl rfl (Nat.le_of_ble_eq_true rfl) rfl ?_
    intro p e s m args below meth c C hret hlocks hT
    refine a_aload_n C dL_failedCommand_0 1 rfl ?_
    refine a_iconst C dL_failedCommand_1 rfl ?_
    refine a_aload_n C dL_failedCommand_2 0 rfl ?_
    refine a_callV C (k := 0) (As := []) (rest := [.int 0, .ref (x_b G + 183)]) (h G) (cwV 0 C.1.2.2.2.2 (gl_up gL_failedCommand_X11_failedCommand) rfl rfl rfl (by decide +kernel) ⟨by dsimp only [x_rm]; omega, by dsimp only [x_rm]; omega⟩) x_k0 (q := (RX11, TX11, 13)) rfl rfl rfl rfl (Nat.le_of_ble_eq_true rfl) dL_failedCommand_3 ⟨Nat.le_of_ble_eq_true rfl, Nat.le_of_ble_eq_true rfl⟩ ?_
    refine a_i2l C dL_failedCommand_6 ?_
    refine a_last C dL_failedCommand_7 ?_
    refine a_goto (C.sl _) dL_failedCommand_8 (tgt := 14) rfl ?_
    refine a_iconst (C.sl _) dL_failedCommand_14 rfl ?_
    refine a_widen (Nat.zero_le 1) (Nat.zero_le 6) ?_
    exact a_iretL (C.sl _) rfl hlocks hret dL_failedCommand_15 (by decide) rfl
  · obtain ⟨k, rfl⟩ : ∃ j, k = j + 1 := ⟨k - 1, by omega⟩
    rw [if_neg (by omega)]
    rcases k with _ | k
    · injection (show some "java/util/NoSuchElementException" = some E from hE) with hE
      subst hE
      refine x_startH (hh := [(0, 8, 11, 124)]) (by decide) rfl rfl (Nat.le_of_ble_eq_true rfl) rfl ?_
      intro p e s m args below meth c C hret hlocks hT
      refine a_aload_n C dL_failedCommand_0 1 rfl ?_
      refine a_iconst C dL_failedCommand_1 rfl ?_
      refine a_aload_n C dL_failedCommand_2 0 rfl ?_
      refine a_callC C (k := 0) (As := []) (rest := [.int 0, .ref (x_b G + 183)]) (h G) (cwV 0 C.1.2.2.2.2 (gl_up gL_failedCommand_X11_failedCommand) rfl rfl rfl (by decide +kernel) ⟨by dsimp only [x_rm]; omega, by dsimp only [x_rm]; omega⟩) x_k0 (q := (RX11, TX11, 13)) rfl rfl rfl rfl (Nat.le_of_ble_eq_true rfl) dL_failedCommand_3 ⟨Nat.le_of_ble_eq_true rfl, Nat.le_of_ble_eq_true rfl⟩ [] ⟨0, 8, 11, 124⟩ [] (hT.trans rfl) (fun z hz => absurd hz List.not_mem_nil) (by decide) (by decide) (List.mem_append_right _ (by decide +kernel)) (by decide +kernel) (fun w => ?_)
      refine a_astore_n C dL_failedCommand_11 (Nat.le_of_ble_eq_true rfl) rfl ?_
      refine a_iconst C dL_failedCommand_12 rfl ?_
      exact a_iretL C rfl hlocks hret dL_failedCommand_13 (by decide) rfl
    · exact absurd (show none = some E from hE) (fun z => by cases z)
theorem w_undo (l : Launch) (G : xG) (d d1 : xd) (k : Nat) (r : Int32) (h : y_C l yX11_undo wsX11_undo (fun G => [.ref (x_b G + 0)]) ["java/lang/IllegalStateException"] k (.int r) d d1) : x_ML G (if k = 0 then x_sl G r.toInt64 else G) l yL_undo (wsL_undo ++ ws_cl) 11 [.ref (x_b G + 0), .ref (x_b G + 183)] d (some (.int (nI k))) d1 := by
  obtain ⟨lv, hlv, ⟨rfl, h⟩ | ⟨E, h1, hE, h⟩⟩ := h
  · rw [if_pos rfl]
    refine x_startH (hh := [(0, 8, 11, 15)]) (by decide) rfl rfl (Nat.le_of_ble_eq_true rfl) rfl ?_
    intro p e s m args below meth c C hret hlocks hT
    refine a_aload_n C dL_undo_0 1 rfl ?_
    refine a_iconst C dL_undo_1 rfl ?_
    refine a_aload_n C dL_undo_2 0 rfl ?_
    refine a_callV C (k := 0) (As := []) (rest := [.int 0, .ref (x_b G + 183)]) (h G) (cwV 0 C.1.2.2.2.2 (gl_up gL_undo_X11_undo) rfl rfl rfl (by decide +kernel) ⟨by dsimp only [x_rm]; omega, by dsimp only [x_rm]; omega⟩) x_k0 (q := (RX11, TX11, 13)) rfl rfl rfl rfl (Nat.le_of_ble_eq_true rfl) dL_undo_3 ⟨Nat.le_of_ble_eq_true rfl, Nat.le_of_ble_eq_true rfl⟩ ?_
    refine a_i2l C dL_undo_6 ?_
    refine a_last C dL_undo_7 ?_
    refine a_goto (C.sl _) dL_undo_8 (tgt := 14) rfl ?_
    refine a_iconst (C.sl _) dL_undo_14 rfl ?_
    refine a_widen (Nat.zero_le 1) (Nat.zero_le 6) ?_
    exact a_iretL (C.sl _) rfl hlocks hret dL_undo_15 (by decide) rfl
  · obtain ⟨k, rfl⟩ : ∃ j, k = j + 1 := ⟨k - 1, by omega⟩
    rw [if_neg (by omega)]
    rcases k with _ | k
    · injection (show some "java/lang/IllegalStateException" = some E from hE) with hE
      subst hE
      refine x_startH (hh := [(0, 8, 11, 15)]) (by decide) rfl rfl (Nat.le_of_ble_eq_true rfl) rfl ?_
      intro p e s m args below meth c C hret hlocks hT
      refine a_aload_n C dL_undo_0 1 rfl ?_
      refine a_iconst C dL_undo_1 rfl ?_
      refine a_aload_n C dL_undo_2 0 rfl ?_
      refine a_callC C (k := 0) (As := []) (rest := [.int 0, .ref (x_b G + 183)]) (h G) (cwV 0 C.1.2.2.2.2 (gl_up gL_undo_X11_undo) rfl rfl rfl (by decide +kernel) ⟨by dsimp only [x_rm]; omega, by dsimp only [x_rm]; omega⟩) x_k0 (q := (RX11, TX11, 13)) rfl rfl rfl rfl (Nat.le_of_ble_eq_true rfl) dL_undo_3 ⟨Nat.le_of_ble_eq_true rfl, Nat.le_of_ble_eq_true rfl⟩ [] ⟨0, 8, 11, 15⟩ [] (hT.trans rfl) (fun z hz => absurd hz List.not_mem_nil) (by decide) (by decide) (List.mem_append_right _ (by decide +kernel)) (by decide +kernel) (fun w => ?_)
      refine a_astore_n C dL_undo_11 (Nat.le_of_ble_eq_true rfl) rfl ?_
      refine a_iconst C dL_undo_12 rfl ?_
      exact a_iretL C rfl hlocks hret dL_undo_13 (by decide) rfl
    · exact absurd (show none = some E from hE) (fun z => by cases z)
theorem w_restore (l : Launch) (G : xG) (d d1 : xd) (k : Nat) (r : Int32) (h : y_C l yX11_restore wsX11_restore (fun G => [.ref (x_b G + 0)]) ["java/lang/IllegalStateException"] k (.int r) d d1) : x_ML G (if k = 0 then x_sl G r.toInt64 else G) l yL_restore (wsL_restore ++ ws_cl) 11 [.ref (x_b G + 0), .ref (x_b G + 183)] d (some (.int (nI k))) d1 := by
  obtain ⟨lv, hlv, ⟨rfl, h⟩ | ⟨E, h1, hE, h⟩⟩ := h
  · rw [if_pos rfl]
    refine x_startH (hh := [(0, 8, 11, 15)]) (by decide) rfl rfl (Nat.le_of_ble_eq_true rfl) rfl ?_
    intro p e s m args below meth c C hret hlocks hT
    refine a_aload_n C dL_restore_0 1 rfl ?_
    refine a_iconst C dL_restore_1 rfl ?_
    refine a_aload_n C dL_restore_2 0 rfl ?_
    refine a_callV C (k := 0) (As := []) (rest := [.int 0, .ref (x_b G + 183)]) (h G) (cwV 0 C.1.2.2.2.2 (gl_up gL_restore_X11_restore) rfl rfl rfl (by decide +kernel) ⟨by dsimp only [x_rm]; omega, by dsimp only [x_rm]; omega⟩) x_k0 (q := (RX11, TX11, 13)) rfl rfl rfl rfl (Nat.le_of_ble_eq_true rfl) dL_restore_3 ⟨Nat.le_of_ble_eq_true rfl, Nat.le_of_ble_eq_true rfl⟩ ?_
    refine a_i2l C dL_restore_6 ?_
    refine a_last C dL_restore_7 ?_
    refine a_goto (C.sl _) dL_restore_8 (tgt := 14) rfl ?_
    refine a_iconst (C.sl _) dL_restore_14 rfl ?_
    refine a_widen (Nat.zero_le 1) (Nat.zero_le 6) ?_
    exact a_iretL (C.sl _) rfl hlocks hret dL_restore_15 (by decide) rfl
  · obtain ⟨k, rfl⟩ : ∃ j, k = j + 1 := ⟨k - 1, by omega⟩
    rw [if_neg (by omega)]
    rcases k with _ | k
    · injection (show some "java/lang/IllegalStateException" = some E from hE) with hE
      subst hE
      refine x_startH (hh := [(0, 8, 11, 15)]) (by decide) rfl rfl (Nat.le_of_ble_eq_true rfl) rfl ?_
      intro p e s m args below meth c C hret hlocks hT
      refine a_aload_n C dL_restore_0 1 rfl ?_
      refine a_iconst C dL_restore_1 rfl ?_
      refine a_aload_n C dL_restore_2 0 rfl ?_
      refine a_callC C (k := 0) (As := []) (rest := [.int 0, .ref (x_b G + 183)]) (h G) (cwV 0 C.1.2.2.2.2 (gl_up gL_restore_X11_restore) rfl rfl rfl (by decide +kernel) ⟨by dsimp only [x_rm]; omega, by dsimp only [x_rm]; omega⟩) x_k0 (q := (RX11, TX11, 13)) rfl rfl rfl rfl (Nat.le_of_ble_eq_true rfl) dL_restore_3 ⟨Nat.le_of_ble_eq_true rfl, Nat.le_of_ble_eq_true rfl⟩ [] ⟨0, 8, 11, 15⟩ [] (hT.trans rfl) (fun z hz => absurd hz List.not_mem_nil) (by decide) (by decide) (List.mem_append_right _ (by decide +kernel)) (by decide +kernel) (fun w => ?_)
      refine a_astore_n C dL_restore_11 (Nat.le_of_ble_eq_true rfl) rfl ?_
      refine a_iconst C dL_restore_12 rfl ?_
      exact a_iretL C rfl hlocks hret dL_restore_13 (by decide) rfl
    · exact absurd (show none = some E from hE) (fun z => by cases z)
