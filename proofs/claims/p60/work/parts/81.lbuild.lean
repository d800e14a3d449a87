/-! the state that a script makes -/
abbrev zs : Type := (Nat → Int32) × List (Nat → Int32)
def s_do (f : (Nat → Int32) → q_O) (p : zs) : zs := (v_do (f p.1) p.1 p.2).2
def t_mx (x : Int32) : Int32 := if 1 < x then x else 1
theorem t_mx_ne (x : Int32) : ¬ t_mx x = 0 := by
  unfold t_mx
  by_cases h : 1 < x
  · rw [if_pos h]
    intro y
    rw [y] at h
    exact absurd h (by decide)
  · rw [if_neg h]
    decide
theorem t_mx_1 : ∀ n, n < 9 → ¬ t_mx (nI n) + 1 = 0 := by decide +kernel
theorem s_and (x : Int32) {m : Nat} (hm : m < 2147483648) : ∃ a, a ≤ m ∧ x &&& nI m = nI a := by
  refine ⟨(x.toBitVec &&& BitVec.ofNat 32 m).toNat, ?_, ?_⟩
  · rw [BitVec.toNat_and, BitVec.toNat_ofNat]
    exact Nat.le_trans Nat.and_le_right (Nat.mod_le _ _)
  · apply Int32.toBitVec_inj.mp
    show x.toBitVec &&& BitVec.ofNat 32 m = BitVec.ofNat 32 (x.toBitVec &&& BitVec.ofNat 32 m).toNat
    rw [BitVec.ofNat_toNat, BitVec.setWidth_eq]
theorem v_C4 {l : Launch} {B : Nat} {d : xd} {z : Nat → Int32} {hs : List (Nat → Int32)} (hfl : l.stackTraces = false) (h : q_R B d z hs) (hB : B + 180 < 100000) (a b : Int32) : v_C l B d z hs (nI 4) a b (if b = 1 then o_bz (o_switchOn z a) else o_bz (o_switchOff z a)) := by
  by_cases hb : b = 1
  · subst hb
    rw [if_pos rfl]
    exact c_L_act_4n hfl h hB a
  · rw [if_neg hb]
    exact c_L_act_4f hfl h hB a b hb
section LB1
variable {l : Launch} {F : xF} {p : Program} {e : Env} {s : State} {m : MethodId} {args : Array Value} {below : List Frame} {meth : Method} {c : Code} {cells slots : Nat} {Q : State → Prop} {B b sb : Nat} {d : xd} {zp : zs} {x0 kk cv mv lp : Int32}
theorem m_act (C : Mx F p s m args c cL_build wsL_build RL 7) {w a b2 : Int32} {o : q_O} {pc : Nat} {lst : List (Nat × Value)} (hv : v_C l B d zp.1 zp.2 w a b2 o) (hc : cells + 1 ≤ 400 ∧ slots + 6 ≤ 2700) (hd0 : decode cL_build pc = .ok (.invokestatic 30, 3)) (hd1 : decode cL_build (pc + 3) = .ok (.pop, 1))
    (K : ∀ d1 : xd, q_R (B + 180) d1 (v_do o zp.1 zp.2).2.1 (v_do o zp.1 zp.2).2.2 → q_k d d1 → Lb p l e (x_rm 12 400 2700) s m args below meth c 7 (cells + 1) (slots + 6) Q (w_A s) (m_P F s.heap.size [(b, d1)]) (pc + 3 + 1) lst []) : Lb p l e (x_rm 12 400 2700) s m args below meth c 7 cells slots Q (w_A s) (m_P F s.heap.size [(b, d)]) pc lst [.int b2, .int a, .int w, .ref b] := by
  obtain ⟨d1, hm, hq, hk⟩ := hv
  refine m_callH C (As := [.ref b, .int w, .int a, .int b2]) (rest := []) (hm (w_B F b)) (vx_cwSW 4 C.1.2.2.2.2 gL_build_L_act rfl rfl rfl (by decide +kernel) ⟨Nat.le_of_ble_eq_true rfl, Nat.le_of_ble_eq_true rfl⟩) rfl rfl (Nat.le_of_ble_eq_true rfl) hd0 hc ?_
  refine l_pop C.1 hd1 rfl ?_
  exact K d1 hq hk
theorem q_w1 {B : Nat} {d : xd} {z : Nat → Int32} {hs : List (Nat → Int32)} (h : q_R B d z hs) : d 10 0 = z 1 := by
  obtain ⟨⟨n, w, t⟩, -⟩ := h
  exact t.1.2.2.1.trans t.1.2.2.2.1.symm
theorem q_n1 {B : Nat} {d : xd} {z : Nat → Int32} {hs : List (Nat → Int32)} (h : q_R B d z hs) : d 2 0 = z 0 ∧ ∃ n, n < 9 ∧ z 0 = nI n := by
  obtain ⟨⟨n, w, t⟩, -⟩ := h
  exact ⟨t.1.1.trans t.1.2.1.symm, n, Nat.lt_succ_of_le t.2.1.1, t.1.2.1⟩
def b_0 (cv mv lp : Int32) (p : zs) : zs := s_do (fun z => (o_giveWick z lp ((1 : Int32) + ((cv >>> ((3 : Int32) &&& 31)) &&& (3 : Int32))))) p
theorem k_0 (hfl : l.stackTraces = false) (C : Mx F p s m args c cL_build wsL_build RL 7) (h : q_R B d zp.1 zp.2) (hB : B + 180 < 100000) (hm0 : ¬ mv = 0) (hm1 : ¬ mv + 1 = 0) (hc : cells + 1 ≤ 400 ∧ slots + 6 ≤ 2700)
    (K : ∀ d1 : xd, q_R (B + 180) d1 (b_0 cv mv lp zp).1 (b_0 cv mv lp zp).2 → q_k d d1 → Lb p l e (x_rm 12 400 2700) s m args below meth c 7 (cells + 1) (slots + 6) Q (w_A s) (m_P F s.heap.size [(b, d1)]) 136 [(6, .int lp), (5, .int mv), (4, .int cv), (3, .int kk), (2, .int x0), (1, .ref b), (0, .ref sb)] []) : Lb p l e (x_rm 12 400 2700) s m args below meth c 7 cells slots Q (w_A s) (m_P F s.heap.size [(b, d)]) 119 [(6, .int lp), (5, .int mv), (4, .int cv), (3, .int kk), (2, .int x0), (1, .ref b), (0, .ref sb)] [] := by
  refine l_aload_n C.1 dL_build_119 5 rfl ?_
  refine l_bipush C.1 dL_build_120 (v := 7) (by decide) ?_
  refine l_iload C.1 dL_build_122 0 rfl ?_
  refine l_iconst C.1 dL_build_124 (v := 1) (by decide) ?_
  refine l_iload C.1 dL_build_125 2 rfl ?_
  refine l_iconst C.1 dL_build_127 (v := 3) (by decide) ?_
  refine l_ishr C.1 dL_build_128 ?_
  refine l_iconst C.1 dL_build_129 (v := 3) (by decide) ?_
  refine l_iand C.1 dL_build_130 ?_
  refine l_iadd C.1 dL_build_131 ?_
  refine m_act C (w := 7) (a := lp) (b2 := ((1 : Int32) + ((cv >>> ((3 : Int32) &&& 31)) &&& (3 : Int32)))) (c_L_act_7 hfl h hB lp ((1 : Int32) + ((cv >>> ((3 : Int32) &&& 31)) &&& (3 : Int32)))) hc dL_build_132 dL_build_135 (fun d1 hq hk => ?_)
  exact K d1 hq hk
def b_1 (cv mv lp : Int32) (p : zs) : zs := if ((cv >>> ((5 : Int32) &&& 31)) &&& (3 : Int32)) = 0 then s_do (fun z => (o_setBrightness z (((cv >>> ((7 : Int32) &&& 31)) &&& (7 : Int32)) - ((cv >>> ((7 : Int32) &&& 31)) &&& (7 : Int32)) / mv * mv) ((1 : Int32) + (((cv >>> ((10 : Int32) &&& 31)) &&& (7 : Int32)) - ((cv >>> ((10 : Int32) &&& 31)) &&& (7 : Int32)) / (5 : Int32) * (5 : Int32))))) p else p
theorem k_1 (hfl : l.stackTraces = false) (C : Mx F p s m args c cL_build wsL_build RL 7) (h : q_R B d zp.1 zp.2) (hB : B + 180 < 100000) (hm0 : ¬ mv = 0) (hm1 : ¬ mv + 1 = 0) (hc : cells + 1 ≤ 400 ∧ slots + 6 ≤ 2700)
    (K : ∀ d1 : xd, q_R (B + 180) d1 (b_1 cv mv lp zp).1 (b_1 cv mv lp zp).2 → q_k d d1 → Lb p l e (x_rm 12 400 2700) s m args below meth c 7 (cells + 1) (slots + 6) Q (w_A s) (m_P F s.heap.size [(b, d1)]) 174 [(6, .int lp), (5, .int mv), (4, .int cv), (3, .int kk), (2, .int x0), (1, .ref b), (0, .ref sb)] []) : Lb p l e (x_rm 12 400 2700) s m args below meth c 7 cells slots Q (w_A s) (m_P F s.heap.size [(b, d)]) 136 [(6, .int lp), (5, .int mv), (4, .int cv), (3, .int kk), (2, .int x0), (1, .ref b), (0, .ref sb)] [] := by
  refine l_iload C.1 dL_build_136 2 rfl ?_
  refine l_iconst C.1 dL_build_138 (v := 5) (by decide) ?_
  refine l_ishr C.1 dL_build_139 ?_
  refine l_iconst C.1 dL_build_140 (v := 3) (by decide) ?_
  refine l_iand C.1 dL_build_141 ?_
  refine l_if_ne C.1 dL_build_142 (tgt := 174) (by decide) (fun h142 => ?_) (fun h142 => ?_)
  · skip
    refine l_widen (k := cells + 1) (n := slots + 6) (Nat.le_add_right _ _) (Nat.le_add_right _ _) ?_
    exact K d (by unfold b_1; rw [if_neg h142]; exact q_R_up h (by omega)) (q_k_refl d)
  · skip
    refine l_aload_n C.1 dL_build_145 5 rfl ?_
    refine l_iconst C.1 dL_build_146 (v := 3) (by decide) ?_
    refine l_iload C.1 dL_build_147 2 rfl ?_
    refine l_bipush C.1 dL_build_149 (v := 7) (by decide) ?_
    refine l_ishr C.1 dL_build_151 ?_
    refine l_bipush C.1 dL_build_152 (v := 7) (by decide) ?_
    refine l_iand C.1 dL_build_154 ?_
    refine l_iload C.1 dL_build_155 1 rfl ?_
    refine l_irem C.1 dL_build_157 hm0 ?_
    refine l_iconst C.1 dL_build_158 (v := 1) (by decide) ?_
    refine l_iload C.1 dL_build_159 2 rfl ?_
    refine l_bipush C.1 dL_build_161 (v := 10) (by decide) ?_
    refine l_ishr C.1 dL_build_163 ?_
    refine l_bipush C.1 dL_build_164 (v := 7) (by decide) ?_
    refine l_iand C.1 dL_build_166 ?_
    refine l_iconst C.1 dL_build_167 (v := 5) (by decide) ?_
    refine l_irem C.1 dL_build_168 (by decide) ?_
    refine l_iadd C.1 dL_build_169 ?_
    refine m_act C (w := 3) (a := (((cv >>> ((7 : Int32) &&& 31)) &&& (7 : Int32)) - ((cv >>> ((7 : Int32) &&& 31)) &&& (7 : Int32)) / mv * mv)) (b2 := ((1 : Int32) + (((cv >>> ((10 : Int32) &&& 31)) &&& (7 : Int32)) - ((cv >>> ((10 : Int32) &&& 31)) &&& (7 : Int32)) / (5 : Int32) * (5 : Int32)))) (c_L_act_3 hfl h hB (((cv >>> ((7 : Int32) &&& 31)) &&& (7 : Int32)) - ((cv >>> ((7 : Int32) &&& 31)) &&& (7 : Int32)) / mv * mv) ((1 : Int32) + (((cv >>> ((10 : Int32) &&& 31)) &&& (7 : Int32)) - ((cv >>> ((10 : Int32) &&& 31)) &&& (7 : Int32)) / (5 : Int32) * (5 : Int32)))) hc dL_build_170 dL_build_173 (fun d1 hq hk => ?_)
    exact K d1 (by unfold b_1; rw [if_pos h142]; exact hq) hk
def b_2 (cv mv lp : Int32) (p : zs) : zs := if ((cv >>> ((5 : Int32) &&& 31)) &&& (7 : Int32)) = 1 then s_do (fun z => (o_deliverOil z ((1 : Int32) + ((cv >>> ((8 : Int32) &&& 31)) &&& (63 : Int32))))) p else p
theorem k_2 (hfl : l.stackTraces = false) (C : Mx F p s m args c cL_build wsL_build RL 7) (h : q_R B d zp.1 zp.2) (hB : B + 180 < 100000) (hm0 : ¬ mv = 0) (hm1 : ¬ mv + 1 = 0) (hc : cells + 1 ≤ 400 ∧ slots + 6 ≤ 2700)
    (K : ∀ d1 : xd, q_R (B + 180) d1 (b_2 cv mv lp zp).1 (b_2 cv mv lp zp).2 → q_k d d1 → Lb p l e (x_rm 12 400 2700) s m args below meth c 7 (cells + 1) (slots + 6) Q (w_A s) (m_P F s.heap.size [(b, d1)]) 202 [(6, .int lp), (5, .int mv), (4, .int cv), (3, .int kk), (2, .int x0), (1, .ref b), (0, .ref sb)] []) : Lb p l e (x_rm 12 400 2700) s m args below meth c 7 cells slots Q (w_A s) (m_P F s.heap.size [(b, d)]) 174 [(6, .int lp), (5, .int mv), (4, .int cv), (3, .int kk), (2, .int x0), (1, .ref b), (0, .ref sb)] [] := by
  refine l_iload C.1 dL_build_174 2 rfl ?_
  refine l_iconst C.1 dL_build_176 (v := 5) (by decide) ?_
  refine l_ishr C.1 dL_build_177 ?_
  refine l_bipush C.1 dL_build_178 (v := 7) (by decide) ?_
  refine l_iand C.1 dL_build_180 ?_
  refine l_iconst C.1 dL_build_181 (v := 1) (by decide) ?_
  refine l_icmp_ne C.1 dL_build_182 (tgt := 202) (by decide) (fun h182 => ?_) (fun h182 => ?_)
  · skip
    refine l_widen (k := cells + 1) (n := slots + 6) (Nat.le_add_right _ _) (Nat.le_add_right _ _) ?_
    exact K d (by unfold b_2; rw [if_neg h182]; exact q_R_up h (by omega)) (q_k_refl d)
  · skip
    refine l_aload_n C.1 dL_build_185 5 rfl ?_
    refine l_iconst C.1 dL_build_186 (v := 5) (by decide) ?_
    refine l_iconst C.1 dL_build_187 (v := 1) (by decide) ?_
    refine l_iload C.1 dL_build_188 2 rfl ?_
    refine l_bipush C.1 dL_build_190 (v := 8) (by decide) ?_
    refine l_ishr C.1 dL_build_192 ?_
    refine l_bipush C.1 dL_build_193 (v := 63) (by decide) ?_
    refine l_iand C.1 dL_build_195 ?_
    refine l_iadd C.1 dL_build_196 ?_
    refine l_iconst C.1 dL_build_197 (v := 0) (by decide) ?_
    refine m_act C (w := 5) (a := ((1 : Int32) + ((cv >>> ((8 : Int32) &&& 31)) &&& (63 : Int32)))) (b2 := 0) (c_L_act_5 hfl h hB ((1 : Int32) + ((cv >>> ((8 : Int32) &&& 31)) &&& (63 : Int32))) 0) hc dL_build_198 dL_build_201 (fun d1 hq hk => ?_)
    exact K d1 (by unfold b_2; rw [if_pos h182]; exact hq) hk
def b_3 (cv mv lp : Int32) (p : zs) : zs := if ((cv >>> ((5 : Int32) &&& 31)) &&& (7 : Int32)) = 2 then s_do (fun z => (o_addMoth z (((cv >>> ((8 : Int32) &&& 31)) &&& (7 : Int32)) - ((cv >>> ((8 : Int32) &&& 31)) &&& (7 : Int32)) / mv * mv))) p else p
theorem k_3 (hfl : l.stackTraces = false) (C : Mx F p s m args c cL_build wsL_build RL 7) (h : q_R B d zp.1 zp.2) (hB : B + 180 < 100000) (hm0 : ¬ mv = 0) (hm1 : ¬ mv + 1 = 0) (hc : cells + 1 ≤ 400 ∧ slots + 6 ≤ 2700)
    (K : ∀ d1 : xd, q_R (B + 180) d1 (b_3 cv mv lp zp).1 (b_3 cv mv lp zp).2 → q_k d d1 → Lb p l e (x_rm 12 400 2700) s m args below meth c 7 (cells + 1) (slots + 6) Q (w_A s) (m_P F s.heap.size [(b, d1)]) 232 [(6, .int lp), (5, .int mv), (4, .int cv), (3, .int kk), (2, .int x0), (1, .ref b), (0, .ref sb)] []) : Lb p l e (x_rm 12 400 2700) s m args below meth c 7 cells slots Q (w_A s) (m_P F s.heap.size [(b, d)]) 202 [(6, .int lp), (5, .int mv), (4, .int cv), (3, .int kk), (2, .int x0), (1, .ref b), (0, .ref sb)] [] := by
  refine l_iload C.1 dL_build_202 2 rfl ?_
  refine l_iconst C.1 dL_build_204 (v := 5) (by decide) ?_
  refine l_ishr C.1 dL_build_205 ?_
  refine l_bipush C.1 dL_build_206 (v := 7) (by decide) ?_
  refine l_iand C.1 dL_build_208 ?_
  refine l_iconst C.1 dL_build_209 (v := 2) (by decide) ?_
  refine l_icmp_ne C.1 dL_build_210 (tgt := 232) (by decide) (fun h210 => ?_) (fun h210 => ?_)
  · skip
    refine l_widen (k := cells + 1) (n := slots + 6) (Nat.le_add_right _ _) (Nat.le_add_right _ _) ?_
    exact K d (by unfold b_3; rw [if_neg h210]; exact q_R_up h (by omega)) (q_k_refl d)
  · skip
    refine l_aload_n C.1 dL_build_213 5 rfl ?_
    refine l_bipush C.1 dL_build_214 (v := 9) (by decide) ?_
    refine l_iload C.1 dL_build_216 2 rfl ?_
    refine l_bipush C.1 dL_build_218 (v := 8) (by decide) ?_
    refine l_ishr C.1 dL_build_220 ?_
    refine l_bipush C.1 dL_build_221 (v := 7) (by decide) ?_
    refine l_iand C.1 dL_build_223 ?_
    refine l_iload C.1 dL_build_224 1 rfl ?_
    refine l_irem C.1 dL_build_226 hm0 ?_
    refine l_iconst C.1 dL_build_227 (v := 0) (by decide) ?_
    refine m_act C (w := 9) (a := (((cv >>> ((8 : Int32) &&& 31)) &&& (7 : Int32)) - ((cv >>> ((8 : Int32) &&& 31)) &&& (7 : Int32)) / mv * mv)) (b2 := 0) (c_L_act_9 hfl h hB (((cv >>> ((8 : Int32) &&& 31)) &&& (7 : Int32)) - ((cv >>> ((8 : Int32) &&& 31)) &&& (7 : Int32)) / mv * mv) 0) hc dL_build_228 dL_build_231 (fun d1 hq hk => ?_)
    exact K d1 (by unfold b_3; rw [if_pos h210]; exact hq) hk
def b_4 (cv mv lp : Int32) (p : zs) : zs := if ((cv >>> ((5 : Int32) &&& 31)) &&& (7 : Int32)) = 3 then s_do (fun z => (o_moveMoth z (((cv >>> ((8 : Int32) &&& 31)) &&& (7 : Int32)) - ((cv >>> ((8 : Int32) &&& 31)) &&& (7 : Int32)) / (t_mx (z 1)) * (t_mx (z 1))) ((((cv >>> ((11 : Int32) &&& 31)) &&& (7 : Int32)) - ((cv >>> ((11 : Int32) &&& 31)) &&& (7 : Int32)) / (mv + (1 : Int32)) * (mv + (1 : Int32))) - (1 : Int32)))) p else p
theorem k_4 (hfl : l.stackTraces = false) (C : Mx F p s m args c cL_build wsL_build RL 7) (h : q_R B d zp.1 zp.2) (hB : B + 180 < 100000) (hm0 : ¬ mv = 0) (hm1 : ¬ mv + 1 = 0) (hc : cells + 1 ≤ 400 ∧ slots + 6 ≤ 2700)
    (K : ∀ d1 : xd, q_R (B + 180) d1 (b_4 cv mv lp zp).1 (b_4 cv mv lp zp).2 → q_k d d1 → Lb p l e (x_rm 12 400 2700) s m args below meth c 7 (cells + 1) (slots + 6) Q (w_A s) (m_P F s.heap.size [(b, d1)]) 282 [(6, .int lp), (5, .int mv), (4, .int cv), (3, .int kk), (2, .int x0), (1, .ref b), (0, .ref sb)] []) : Lb p l e (x_rm 12 400 2700) s m args below meth c 7 cells slots Q (w_A s) (m_P F s.heap.size [(b, d)]) 232 [(6, .int lp), (5, .int mv), (4, .int cv), (3, .int kk), (2, .int x0), (1, .ref b), (0, .ref sb)] [] := by
  refine l_iload C.1 dL_build_232 2 rfl ?_
  refine l_iconst C.1 dL_build_234 (v := 5) (by decide) ?_
  refine l_ishr C.1 dL_build_235 ?_
  refine l_bipush C.1 dL_build_236 (v := 7) (by decide) ?_
  refine l_iand C.1 dL_build_238 ?_
  refine l_iconst C.1 dL_build_239 (v := 3) (by decide) ?_
  refine l_icmp_ne C.1 dL_build_240 (tgt := 282) (by decide) (fun h240 => ?_) (fun h240 => ?_)
  · skip
    refine l_widen (k := cells + 1) (n := slots + 6) (Nat.le_add_right _ _) (Nat.le_add_right _ _) ?_
    exact K d (by unfold b_4; rw [if_neg h240]; exact q_R_up h (by omega)) (q_k_refl d)
  · skip
    refine l_aload_n C.1 dL_build_243 5 rfl ?_
    refine l_bipush C.1 dL_build_244 (v := 10) (by decide) ?_
    refine l_iload C.1 dL_build_246 2 rfl ?_
    refine l_bipush C.1 dL_build_248 (v := 8) (by decide) ?_
    refine l_ishr C.1 dL_build_250 ?_
    refine l_bipush C.1 dL_build_251 (v := 7) (by decide) ?_
    refine l_iand C.1 dL_build_253 ?_
    refine l_iconst C.1 dL_build_254 (v := 1) (by decide) ?_
    refine l_aload_n C.1 dL_build_255 5 rfl ?_
    refine m_callV C (b := b) (As := []) (rest := [.int 1, .int ((cv >>> ((8 : Int32) &&& 31)) &&& (7 : Int32)), .int 10, .ref b]) (c_F_mothCount l (w_B F b) d) (cwV 0 C.1.2.2.2.2 gL_build_X11_mothCount rfl rfl rfl (by decide +kernel) ⟨Nat.le_of_ble_eq_true rfl, Nat.le_of_ble_eq_true rfl⟩) rfl rfl (Nat.le_of_ble_eq_true rfl) dL_build_256 ⟨by dsimp only [x_rm]; omega, by dsimp only [x_rm]; omega⟩ ?_
    refine l_top (y := zp.1 1) (q_w1 h) ?_
    refine l_mmax C.1 (by decide +kernel) (by decide +kernel) (by decide +kernel) (by decide +kernel) (Nat.le_of_ble_eq_true rfl) (Nat.le_of_ble_eq_true rfl) (by dsimp only [x_rm]; omega) (by dsimp only [x_rm]; omega) dL_build_259 ?_
    refine l_top (y := t_mx (zp.1 1)) rfl ?_
    refine l_irem C.1 dL_build_262 (t_mx_ne _) ?_
    refine l_iload C.1 dL_build_263 2 rfl ?_
    refine l_bipush C.1 dL_build_265 (v := 11) (by decide) ?_
    refine l_ishr C.1 dL_build_267 ?_
    refine l_bipush C.1 dL_build_268 (v := 7) (by decide) ?_
    refine l_iand C.1 dL_build_270 ?_
    refine l_iload C.1 dL_build_271 1 rfl ?_
    refine l_iconst C.1 dL_build_273 (v := 1) (by decide) ?_
    refine l_iadd C.1 dL_build_274 ?_
    refine l_irem C.1 dL_build_275 hm1 ?_
    refine l_iconst C.1 dL_build_276 (v := 1) (by decide) ?_
    refine l_isub C.1 dL_build_277 ?_
    refine m_act C (w := 10) (a := (((cv >>> ((8 : Int32) &&& 31)) &&& (7 : Int32)) - ((cv >>> ((8 : Int32) &&& 31)) &&& (7 : Int32)) / (t_mx (zp.1 1)) * (t_mx (zp.1 1)))) (b2 := ((((cv >>> ((11 : Int32) &&& 31)) &&& (7 : Int32)) - ((cv >>> ((11 : Int32) &&& 31)) &&& (7 : Int32)) / (mv + (1 : Int32)) * (mv + (1 : Int32))) - (1 : Int32))) (c_L_act_10 hfl h hB (((cv >>> ((8 : Int32) &&& 31)) &&& (7 : Int32)) - ((cv >>> ((8 : Int32) &&& 31)) &&& (7 : Int32)) / (t_mx (zp.1 1)) * (t_mx (zp.1 1))) ((((cv >>> ((11 : Int32) &&& 31)) &&& (7 : Int32)) - ((cv >>> ((11 : Int32) &&& 31)) &&& (7 : Int32)) / (mv + (1 : Int32)) * (mv + (1 : Int32))) - (1 : Int32))) hc dL_build_278 dL_build_281 (fun d1 hq hk => ?_)
    exact K d1 (by unfold b_4; rw [if_pos h240]; exact hq) hk
def b_5 (cv mv lp : Int32) (p : zs) : zs := if ((cv >>> ((5 : Int32) &&& 31)) &&& (7 : Int32)) = 5 then s_do (fun z => (o_burnNight z)) p else p
theorem k_5 (hfl : l.stackTraces = false) (C : Mx F p s m args c cL_build wsL_build RL 7) (h : q_R B d zp.1 zp.2) (hB : B + 180 < 100000) (hm0 : ¬ mv = 0) (hm1 : ¬ mv + 1 = 0) (hc : cells + 1 ≤ 400 ∧ slots + 6 ≤ 2700)
    (K : ∀ d1 : xd, q_R (B + 180) d1 (b_5 cv mv lp zp).1 (b_5 cv mv lp zp).2 → q_k d d1 → Lb p l e (x_rm 12 400 2700) s m args below meth c 7 (cells + 1) (slots + 6) Q (w_A s) (m_P F s.heap.size [(b, d1)]) 302 [(6, .int lp), (5, .int mv), (4, .int cv), (3, .int kk), (2, .int x0), (1, .ref b), (0, .ref sb)] []) : Lb p l e (x_rm 12 400 2700) s m args below meth c 7 cells slots Q (w_A s) (m_P F s.heap.size [(b, d)]) 282 [(6, .int lp), (5, .int mv), (4, .int cv), (3, .int kk), (2, .int x0), (1, .ref b), (0, .ref sb)] [] := by
  refine l_iload C.1 dL_build_282 2 rfl ?_
  refine l_iconst C.1 dL_build_284 (v := 5) (by decide) ?_
  refine l_ishr C.1 dL_build_285 ?_
  refine l_bipush C.1 dL_build_286 (v := 7) (by decide) ?_
  refine l_iand C.1 dL_build_288 ?_
  refine l_iconst C.1 dL_build_289 (v := 5) (by decide) ?_
  refine l_icmp_ne C.1 dL_build_290 (tgt := 302) (by decide) (fun h290 => ?_) (fun h290 => ?_)
  · skip
    refine l_widen (k := cells + 1) (n := slots + 6) (Nat.le_add_right _ _) (Nat.le_add_right _ _) ?_
    exact K d (by unfold b_5; rw [if_neg h290]; exact q_R_up h (by omega)) (q_k_refl d)
  · skip
    refine l_aload_n C.1 dL_build_293 5 rfl ?_
    refine l_bipush C.1 dL_build_294 (v := 12) (by decide) ?_
    refine l_iconst C.1 dL_build_296 (v := 0) (by decide) ?_
    refine l_iconst C.1 dL_build_297 (v := 0) (by decide) ?_
    refine m_act C (w := 12) (a := 0) (b2 := 0) (c_L_act_12 hfl h hB 0 0) hc dL_build_298 dL_build_301 (fun d1 hq hk => ?_)
    exact K d1 (by unfold b_5; rw [if_pos h290]; exact hq) hk
def b_6 (cv mv lp : Int32) (p : zs) : zs := if ((cv >>> ((5 : Int32) &&& 31)) &&& (7 : Int32)) = 6 then s_do (fun z => o_bz (o_proposeCap z ((1 : Int32) + (((cv >>> ((8 : Int32) &&& 31)) &&& (7 : Int32)) - ((cv >>> ((8 : Int32) &&& 31)) &&& (7 : Int32)) / (5 : Int32) * (5 : Int32))))) p else p
theorem k_6 (hfl : l.stackTraces = false) (C : Mx F p s m args c cL_build wsL_build RL 7) (h : q_R B d zp.1 zp.2) (hB : B + 180 < 100000) (hm0 : ¬ mv = 0) (hm1 : ¬ mv + 1 = 0) (hc : cells + 1 ≤ 400 ∧ slots + 6 ≤ 2700)
    (K : ∀ d1 : xd, q_R (B + 180) d1 (b_6 cv mv lp zp).1 (b_6 cv mv lp zp).2 → q_k d d1 → Lb p l e (x_rm 12 400 2700) s m args below meth c 7 (cells + 1) (slots + 6) Q (w_A s) (m_P F s.heap.size [(b, d1)]) 334 [(6, .int lp), (5, .int mv), (4, .int cv), (3, .int kk), (2, .int x0), (1, .ref b), (0, .ref sb)] []) : Lb p l e (x_rm 12 400 2700) s m args below meth c 7 cells slots Q (w_A s) (m_P F s.heap.size [(b, d)]) 302 [(6, .int lp), (5, .int mv), (4, .int cv), (3, .int kk), (2, .int x0), (1, .ref b), (0, .ref sb)] [] := by
  refine l_iload C.1 dL_build_302 2 rfl ?_
  refine l_iconst C.1 dL_build_304 (v := 5) (by decide) ?_
  refine l_ishr C.1 dL_build_305 ?_
  refine l_bipush C.1 dL_build_306 (v := 7) (by decide) ?_
  refine l_iand C.1 dL_build_308 ?_
  refine l_bipush C.1 dL_build_309 (v := 6) (by decide) ?_
  refine l_icmp_ne C.1 dL_build_311 (tgt := 334) (by decide) (fun h311 => ?_) (fun h311 => ?_)
  · skip
    refine l_widen (k := cells + 1) (n := slots + 6) (Nat.le_add_right _ _) (Nat.le_add_right _ _) ?_
    exact K d (by unfold b_6; rw [if_neg h311]; exact q_R_up h (by omega)) (q_k_refl d)
  · skip
    refine l_aload_n C.1 dL_build_314 5 rfl ?_
    refine l_bipush C.1 dL_build_315 (v := 11) (by decide) ?_
    refine l_iconst C.1 dL_build_317 (v := 1) (by decide) ?_
    refine l_iload C.1 dL_build_318 2 rfl ?_
    refine l_bipush C.1 dL_build_320 (v := 8) (by decide) ?_
    refine l_ishr C.1 dL_build_322 ?_
    refine l_bipush C.1 dL_build_323 (v := 7) (by decide) ?_
    refine l_iand C.1 dL_build_325 ?_
    refine l_iconst C.1 dL_build_326 (v := 5) (by decide) ?_
    refine l_irem C.1 dL_build_327 (by decide) ?_
    refine l_iadd C.1 dL_build_328 ?_
    refine l_iconst C.1 dL_build_329 (v := 0) (by decide) ?_
    refine m_act C (w := 11) (a := ((1 : Int32) + (((cv >>> ((8 : Int32) &&& 31)) &&& (7 : Int32)) - ((cv >>> ((8 : Int32) &&& 31)) &&& (7 : Int32)) / (5 : Int32) * (5 : Int32)))) (b2 := 0) (c_L_act_11 hfl h hB ((1 : Int32) + (((cv >>> ((8 : Int32) &&& 31)) &&& (7 : Int32)) - ((cv >>> ((8 : Int32) &&& 31)) &&& (7 : Int32)) / (5 : Int32) * (5 : Int32))) 0) hc dL_build_330 dL_build_333 (fun d1 hq hk => ?_)
    exact K d1 (by unfold b_6; rw [if_pos h311]; exact hq) hk
def b_7 (cv mv lp : Int32) (p : zs) : zs := if ((cv >>> ((5 : Int32) &&& 31)) &&& (7 : Int32)) = 7 then s_do (fun z => (if ((cv >>> ((11 : Int32) &&& 31)) &&& (1 : Int32)) = 1 then o_bz (o_switchOn z (((cv >>> ((8 : Int32) &&& 31)) &&& (7 : Int32)) - ((cv >>> ((8 : Int32) &&& 31)) &&& (7 : Int32)) / mv * mv)) else o_bz (o_switchOff z (((cv >>> ((8 : Int32) &&& 31)) &&& (7 : Int32)) - ((cv >>> ((8 : Int32) &&& 31)) &&& (7 : Int32)) / mv * mv)))) p else p
theorem k_7 (hfl : l.stackTraces = false) (C : Mx F p s m args c cL_build wsL_build RL 7) (h : q_R B d zp.1 zp.2) (hB : B + 180 < 100000) (hm0 : ¬ mv = 0) (hm1 : ¬ mv + 1 = 0) (hc : cells + 1 ≤ 400 ∧ slots + 6 ≤ 2700)
    (K : ∀ d1 : xd, q_R (B + 180) d1 (b_7 cv mv lp zp).1 (b_7 cv mv lp zp).2 → q_k d d1 → Lb p l e (x_rm 12 400 2700) s m args below meth c 7 (cells + 1) (slots + 6) Q (w_A s) (m_P F s.heap.size [(b, d1)]) 370 [(6, .int lp), (5, .int mv), (4, .int cv), (3, .int kk), (2, .int x0), (1, .ref b), (0, .ref sb)] []) : Lb p l e (x_rm 12 400 2700) s m args below meth c 7 cells slots Q (w_A s) (m_P F s.heap.size [(b, d)]) 334 [(6, .int lp), (5, .int mv), (4, .int cv), (3, .int kk), (2, .int x0), (1, .ref b), (0, .ref sb)] [] := by
  refine l_iload C.1 dL_build_334 2 rfl ?_
  refine l_iconst C.1 dL_build_336 (v := 5) (by decide) ?_
  refine l_ishr C.1 dL_build_337 ?_
  refine l_bipush C.1 dL_build_338 (v := 7) (by decide) ?_
  refine l_iand C.1 dL_build_340 ?_
  refine l_bipush C.1 dL_build_341 (v := 7) (by decide) ?_
  refine l_icmp_ne C.1 dL_build_343 (tgt := 370) (by decide) (fun h343 => ?_) (fun h343 => ?_)
  · skip
    refine l_widen (k := cells + 1) (n := slots + 6) (Nat.le_add_right _ _) (Nat.le_add_right _ _) ?_
    exact K d (by unfold b_7; rw [if_neg h343]; exact q_R_up h (by omega)) (q_k_refl d)
  · skip
    refine l_aload_n C.1 dL_build_346 5 rfl ?_
    refine l_iconst C.1 dL_build_347 (v := 4) (by decide) ?_
    refine l_iload C.1 dL_build_348 2 rfl ?_
    refine l_bipush C.1 dL_build_350 (v := 8) (by decide) ?_
    refine l_ishr C.1 dL_build_352 ?_
    refine l_bipush C.1 dL_build_353 (v := 7) (by decide) ?_
    refine l_iand C.1 dL_build_355 ?_
    refine l_iload C.1 dL_build_356 1 rfl ?_
    refine l_irem C.1 dL_build_358 hm0 ?_
    refine l_iload C.1 dL_build_359 2 rfl ?_
    refine l_bipush C.1 dL_build_361 (v := 11) (by decide) ?_
    refine l_ishr C.1 dL_build_363 ?_
    refine l_iconst C.1 dL_build_364 (v := 1) (by decide) ?_
    refine l_iand C.1 dL_build_365 ?_
    refine m_act C (w := 4) (a := (((cv >>> ((8 : Int32) &&& 31)) &&& (7 : Int32)) - ((cv >>> ((8 : Int32) &&& 31)) &&& (7 : Int32)) / mv * mv)) (b2 := ((cv >>> ((11 : Int32) &&& 31)) &&& (1 : Int32))) (v_C4 hfl h hB (((cv >>> ((8 : Int32) &&& 31)) &&& (7 : Int32)) - ((cv >>> ((8 : Int32) &&& 31)) &&& (7 : Int32)) / mv * mv) ((cv >>> ((11 : Int32) &&& 31)) &&& (1 : Int32))) hc dL_build_366 dL_build_369 (fun d1 hq hk => ?_)
    exact K d1 (by unfold b_7; rw [if_pos h343]; exact hq) hk
def b_8 (cv mv lp : Int32) (p : zs) : zs := if ((cv >>> ((12 : Int32) &&& 31)) &&& (3 : Int32)) = 0 then s_do (fun z => (o_burnNight z)) p else p
theorem k_8 (hfl : l.stackTraces = false) (C : Mx F p s m args c cL_build wsL_build RL 7) (h : q_R B d zp.1 zp.2) (hB : B + 180 < 100000) (hm0 : ¬ mv = 0) (hm1 : ¬ mv + 1 = 0) (hc : cells + 1 ≤ 400 ∧ slots + 6 ≤ 2700)
    (K : ∀ d1 : xd, q_R (B + 180) d1 (b_8 cv mv lp zp).1 (b_8 cv mv lp zp).2 → q_k d d1 → Lb p l e (x_rm 12 400 2700) s m args below meth c 7 (cells + 1) (slots + 6) Q (w_A s) (m_P F s.heap.size [(b, d1)]) 389 [(6, .int lp), (5, .int mv), (4, .int cv), (3, .int kk), (2, .int x0), (1, .ref b), (0, .ref sb)] []) : Lb p l e (x_rm 12 400 2700) s m args below meth c 7 cells slots Q (w_A s) (m_P F s.heap.size [(b, d)]) 370 [(6, .int lp), (5, .int mv), (4, .int cv), (3, .int kk), (2, .int x0), (1, .ref b), (0, .ref sb)] [] := by
  refine l_iload C.1 dL_build_370 2 rfl ?_
  refine l_bipush C.1 dL_build_372 (v := 12) (by decide) ?_
  refine l_ishr C.1 dL_build_374 ?_
  refine l_iconst C.1 dL_build_375 (v := 3) (by decide) ?_
  refine l_iand C.1 dL_build_376 ?_
  refine l_if_ne C.1 dL_build_377 (tgt := 389) (by decide) (fun h377 => ?_) (fun h377 => ?_)
  · skip
    refine l_widen (k := cells + 1) (n := slots + 6) (Nat.le_add_right _ _) (Nat.le_add_right _ _) ?_
    exact K d (by unfold b_8; rw [if_neg h377]; exact q_R_up h (by omega)) (q_k_refl d)
  · skip
    refine l_aload_n C.1 dL_build_380 5 rfl ?_
    refine l_bipush C.1 dL_build_381 (v := 12) (by decide) ?_
    refine l_iconst C.1 dL_build_383 (v := 0) (by decide) ?_
    refine l_iconst C.1 dL_build_384 (v := 0) (by decide) ?_
    refine m_act C (w := 12) (a := 0) (b2 := 0) (c_L_act_12 hfl h hB 0 0) hc dL_build_385 dL_build_388 (fun d1 hq hk => ?_)
    exact K d1 (by unfold b_8; rw [if_pos h377]; exact hq) hk
def b_9 (cv mv lp : Int32) (p : zs) : zs := if ((cv >>> ((12 : Int32) &&& 31)) &&& (7 : Int32)) = 1 then s_do (fun z => (o_payDividend z)) p else p
theorem k_9 (hfl : l.stackTraces = false) (C : Mx F p s m args c cL_build wsL_build RL 7) (h : q_R B d zp.1 zp.2) (hB : B + 180 < 100000) (hm0 : ¬ mv = 0) (hm1 : ¬ mv + 1 = 0) (hc : cells + 1 ≤ 400 ∧ slots + 6 ≤ 2700)
    (K : ∀ d1 : xd, q_R (B + 180) d1 (b_9 cv mv lp zp).1 (b_9 cv mv lp zp).2 → q_k d d1 → Lb p l e (x_rm 12 400 2700) s m args below meth c 7 (cells + 1) (slots + 6) Q (w_A s) (m_P F s.heap.size [(b, d1)]) 410 [(6, .int lp), (5, .int mv), (4, .int cv), (3, .int kk), (2, .int x0), (1, .ref b), (0, .ref sb)] []) : Lb p l e (x_rm 12 400 2700) s m args below meth c 7 cells slots Q (w_A s) (m_P F s.heap.size [(b, d)]) 389 [(6, .int lp), (5, .int mv), (4, .int cv), (3, .int kk), (2, .int x0), (1, .ref b), (0, .ref sb)] [] := by
  refine l_iload C.1 dL_build_389 2 rfl ?_
  refine l_bipush C.1 dL_build_391 (v := 12) (by decide) ?_
  refine l_ishr C.1 dL_build_393 ?_
  refine l_bipush C.1 dL_build_394 (v := 7) (by decide) ?_
  refine l_iand C.1 dL_build_396 ?_
  refine l_iconst C.1 dL_build_397 (v := 1) (by decide) ?_
  refine l_icmp_ne C.1 dL_build_398 (tgt := 410) (by decide) (fun h398 => ?_) (fun h398 => ?_)
  · skip
    refine l_widen (k := cells + 1) (n := slots + 6) (Nat.le_add_right _ _) (Nat.le_add_right _ _) ?_
    exact K d (by unfold b_9; rw [if_neg h398]; exact q_R_up h (by omega)) (q_k_refl d)
  · skip
    refine l_aload_n C.1 dL_build_401 5 rfl ?_
    refine l_bipush C.1 dL_build_402 (v := 13) (by decide) ?_
    refine l_iconst C.1 dL_build_404 (v := 0) (by decide) ?_
    refine l_iconst C.1 dL_build_405 (v := 0) (by decide) ?_
    refine m_act C (w := 13) (a := 0) (b2 := 0) (c_L_act_13 hfl h hB 0 0) hc dL_build_406 dL_build_409 (fun d1 hq hk => ?_)
    exact K d1 (by unfold b_9; rw [if_pos h398]; exact hq) hk
def b_10 (cv mv lp : Int32) (p : zs) : zs := if ((cv >>> ((12 : Int32) &&& 31)) &&& (7 : Int32)) = 2 then s_do (fun z => (o_buyOil z (((cv >>> ((15 : Int32) &&& 31)) &&& (7 : Int32)) - ((cv >>> ((15 : Int32) &&& 31)) &&& (7 : Int32)) / mv * mv) ((1 : Int32) + ((cv >>> ((18 : Int32) &&& 31)) &&& (15 : Int32))))) p else p
theorem k_10 (hfl : l.stackTraces = false) (C : Mx F p s m args c cL_build wsL_build RL 7) (h : q_R B d zp.1 zp.2) (hB : B + 180 < 100000) (hm0 : ¬ mv = 0) (hm1 : ¬ mv + 1 = 0) (hc : cells + 1 ≤ 400 ∧ slots + 6 ≤ 2700)
    (K : ∀ d1 : xd, q_R (B + 180) d1 (b_10 cv mv lp zp).1 (b_10 cv mv lp zp).2 → q_k d d1 → Lb p l e (x_rm 12 400 2700) s m args below meth c 7 (cells + 1) (slots + 6) Q (w_A s) (m_P F s.heap.size [(b, d1)]) 450 [(6, .int lp), (5, .int mv), (4, .int cv), (3, .int kk), (2, .int x0), (1, .ref b), (0, .ref sb)] []) : Lb p l e (x_rm 12 400 2700) s m args below meth c 7 cells slots Q (w_A s) (m_P F s.heap.size [(b, d)]) 410 [(6, .int lp), (5, .int mv), (4, .int cv), (3, .int kk), (2, .int x0), (1, .ref b), (0, .ref sb)] [] := by
  refine l_iload C.1 dL_build_410 2 rfl ?_
  refine l_bipush C.1 dL_build_412 (v := 12) (by decide) ?_
  refine l_ishr C.1 dL_build_414 ?_
  refine l_bipush C.1 dL_build_415 (v := 7) (by decide) ?_
  refine l_iand C.1 dL_build_417 ?_
  refine l_iconst C.1 dL_build_418 (v := 2) (by decide) ?_
  refine l_icmp_ne C.1 dL_build_419 (tgt := 450) (by decide) (fun h419 => ?_) (fun h419 => ?_)
  · skip
    refine l_widen (k := cells + 1) (n := slots + 6) (Nat.le_add_right _ _) (Nat.le_add_right _ _) ?_
    exact K d (by unfold b_10; rw [if_neg h419]; exact q_R_up h (by omega)) (q_k_refl d)
  · skip
    refine l_aload_n C.1 dL_build_422 5 rfl ?_
    refine l_bipush C.1 dL_build_423 (v := 14) (by decide) ?_
    refine l_iload C.1 dL_build_425 2 rfl ?_
    refine l_bipush C.1 dL_build_427 (v := 15) (by decide) ?_
    refine l_ishr C.1 dL_build_429 ?_
    refine l_bipush C.1 dL_build_430 (v := 7) (by decide) ?_
    refine l_iand C.1 dL_build_432 ?_
    refine l_iload C.1 dL_build_433 1 rfl ?_
    refine l_irem C.1 dL_build_435 hm0 ?_
    refine l_iconst C.1 dL_build_436 (v := 1) (by decide) ?_
    refine l_iload C.1 dL_build_437 2 rfl ?_
    refine l_bipush C.1 dL_build_439 (v := 18) (by decide) ?_
    refine l_ishr C.1 dL_build_441 ?_
    refine l_bipush C.1 dL_build_442 (v := 15) (by decide) ?_
    refine l_iand C.1 dL_build_444 ?_
    refine l_iadd C.1 dL_build_445 ?_
    refine m_act C (w := 14) (a := (((cv >>> ((15 : Int32) &&& 31)) &&& (7 : Int32)) - ((cv >>> ((15 : Int32) &&& 31)) &&& (7 : Int32)) / mv * mv)) (b2 := ((1 : Int32) + ((cv >>> ((18 : Int32) &&& 31)) &&& (15 : Int32)))) (c_L_act_14 hfl h hB (((cv >>> ((15 : Int32) &&& 31)) &&& (7 : Int32)) - ((cv >>> ((15 : Int32) &&& 31)) &&& (7 : Int32)) / mv * mv) ((1 : Int32) + ((cv >>> ((18 : Int32) &&& 31)) &&& (15 : Int32)))) hc dL_build_446 dL_build_449 (fun d1 hq hk => ?_)
    exact K d1 (by unfold b_10; rw [if_pos h419]; exact hq) hk
def b_11 (cv mv lp : Int32) (p : zs) : zs := if ((cv >>> ((12 : Int32) &&& 31)) &&& (15 : Int32)) = 3 then s_do (fun z => (o_removeLamp z (((cv >>> ((16 : Int32) &&& 31)) &&& (7 : Int32)) - ((cv >>> ((16 : Int32) &&& 31)) &&& (7 : Int32)) / mv * mv))) p else p
theorem k_11 (hfl : l.stackTraces = false) (C : Mx F p s m args c cL_build wsL_build RL 7) (h : q_R B d zp.1 zp.2) (hB : B + 180 < 100000) (hm0 : ¬ mv = 0) (hm1 : ¬ mv + 1 = 0) (hc : cells + 1 ≤ 400 ∧ slots + 6 ≤ 2700)
    (K : ∀ d1 : xd, q_R (B + 180) d1 (b_11 cv mv lp zp).1 (b_11 cv mv lp zp).2 → q_k d d1 → Lb p l e (x_rm 12 400 2700) s m args below meth c 7 (cells + 1) (slots + 6) Q (w_A s) (m_P F s.heap.size [(b, d1)]) 480 [(6, .int lp), (5, .int mv), (4, .int cv), (3, .int kk), (2, .int x0), (1, .ref b), (0, .ref sb)] []) : Lb p l e (x_rm 12 400 2700) s m args below meth c 7 cells slots Q (w_A s) (m_P F s.heap.size [(b, d)]) 450 [(6, .int lp), (5, .int mv), (4, .int cv), (3, .int kk), (2, .int x0), (1, .ref b), (0, .ref sb)] [] := by
  refine l_iload C.1 dL_build_450 2 rfl ?_
  refine l_bipush C.1 dL_build_452 (v := 12) (by decide) ?_
  refine l_ishr C.1 dL_build_454 ?_
  refine l_bipush C.1 dL_build_455 (v := 15) (by decide) ?_
  refine l_iand C.1 dL_build_457 ?_
  refine l_iconst C.1 dL_build_458 (v := 3) (by decide) ?_
  refine l_icmp_ne C.1 dL_build_459 (tgt := 480) (by decide) (fun h459 => ?_) (fun h459 => ?_)
  · skip
    refine l_widen (k := cells + 1) (n := slots + 6) (Nat.le_add_right _ _) (Nat.le_add_right _ _) ?_
    exact K d (by unfold b_11; rw [if_neg h459]; exact q_R_up h (by omega)) (q_k_refl d)
  · skip
    refine l_aload_n C.1 dL_build_462 5 rfl ?_
    refine l_iconst C.1 dL_build_463 (v := 1) (by decide) ?_
    refine l_iload C.1 dL_build_464 2 rfl ?_
    refine l_bipush C.1 dL_build_466 (v := 16) (by decide) ?_
    refine l_ishr C.1 dL_build_468 ?_
    refine l_bipush C.1 dL_build_469 (v := 7) (by decide) ?_
    refine l_iand C.1 dL_build_471 ?_
    refine l_iload C.1 dL_build_472 1 rfl ?_
    refine l_irem C.1 dL_build_474 hm0 ?_
    refine l_iconst C.1 dL_build_475 (v := 0) (by decide) ?_
    refine m_act C (w := 1) (a := (((cv >>> ((16 : Int32) &&& 31)) &&& (7 : Int32)) - ((cv >>> ((16 : Int32) &&& 31)) &&& (7 : Int32)) / mv * mv)) (b2 := 0) (c_L_act_1 hfl h hB (((cv >>> ((16 : Int32) &&& 31)) &&& (7 : Int32)) - ((cv >>> ((16 : Int32) &&& 31)) &&& (7 : Int32)) / mv * mv) 0) hc dL_build_476 dL_build_479 (fun d1 hq hk => ?_)
    exact K d1 (by unfold b_11; rw [if_pos h459]; exact hq) hk
def b_12 (cv mv lp : Int32) (p : zs) : zs := if ((cv >>> ((12 : Int32) &&& 31)) &&& (15 : Int32)) = 11 then s_do (fun z => (o_setShares z (((cv >>> ((16 : Int32) &&& 31)) &&& (7 : Int32)) - ((cv >>> ((16 : Int32) &&& 31)) &&& (7 : Int32)) / mv * mv) ((1 : Int32) + ((cv >>> ((19 : Int32) &&& 31)) &&& (7 : Int32))))) p else p
theorem k_12 (hfl : l.stackTraces = false) (C : Mx F p s m args c cL_build wsL_build RL 7) (h : q_R B d zp.1 zp.2) (hB : B + 180 < 100000) (hm0 : ¬ mv = 0) (hm1 : ¬ mv + 1 = 0) (hc : cells + 1 ≤ 400 ∧ slots + 6 ≤ 2700)
    (K : ∀ d1 : xd, q_R (B + 180) d1 (b_12 cv mv lp zp).1 (b_12 cv mv lp zp).2 → q_k d d1 → Lb p l e (x_rm 12 400 2700) s m args below meth c 7 (cells + 1) (slots + 6) Q (w_A s) (m_P F s.heap.size [(b, d1)]) 520 [(6, .int lp), (5, .int mv), (4, .int cv), (3, .int kk), (2, .int x0), (1, .ref b), (0, .ref sb)] []) : Lb p l e (x_rm 12 400 2700) s m args below meth c 7 cells slots Q (w_A s) (m_P F s.heap.size [(b, d)]) 480 [(6, .int lp), (5, .int mv), (4, .int cv), (3, .int kk), (2, .int x0), (1, .ref b), (0, .ref sb)] [] := by
  refine l_iload C.1 dL_build_480 2 rfl ?_
  refine l_bipush C.1 dL_build_482 (v := 12) (by decide) ?_
  refine l_ishr C.1 dL_build_484 ?_
  refine l_bipush C.1 dL_build_485 (v := 15) (by decide) ?_
  refine l_iand C.1 dL_build_487 ?_
  refine l_bipush C.1 dL_build_488 (v := 11) (by decide) ?_
  refine l_icmp_ne C.1 dL_build_490 (tgt := 520) (by decide) (fun h490 => ?_) (fun h490 => ?_)
  · skip
    refine l_widen (k := cells + 1) (n := slots + 6) (Nat.le_add_right _ _) (Nat.le_add_right _ _) ?_
    exact K d (by unfold b_12; rw [if_neg h490]; exact q_R_up h (by omega)) (q_k_refl d)
  · skip
    refine l_aload_n C.1 dL_build_493 5 rfl ?_
    refine l_iconst C.1 dL_build_494 (v := 2) (by decide) ?_
    refine l_iload C.1 dL_build_495 2 rfl ?_
    refine l_bipush C.1 dL_build_497 (v := 16) (by decide) ?_
    refine l_ishr C.1 dL_build_499 ?_
    refine l_bipush C.1 dL_build_500 (v := 7) (by decide) ?_
    refine l_iand C.1 dL_build_502 ?_
    refine l_iload C.1 dL_build_503 1 rfl ?_
    refine l_irem C.1 dL_build_505 hm0 ?_
    refine l_iconst C.1 dL_build_506 (v := 1) (by decide) ?_
    refine l_iload C.1 dL_build_507 2 rfl ?_
    refine l_bipush C.1 dL_build_509 (v := 19) (by decide) ?_
    refine l_ishr C.1 dL_build_511 ?_
    refine l_bipush C.1 dL_build_512 (v := 7) (by decide) ?_
    refine l_iand C.1 dL_build_514 ?_
    refine l_iadd C.1 dL_build_515 ?_
    refine m_act C (w := 2) (a := (((cv >>> ((16 : Int32) &&& 31)) &&& (7 : Int32)) - ((cv >>> ((16 : Int32) &&& 31)) &&& (7 : Int32)) / mv * mv)) (b2 := ((1 : Int32) + ((cv >>> ((19 : Int32) &&& 31)) &&& (7 : Int32)))) (c_L_act_2 hfl h hB (((cv >>> ((16 : Int32) &&& 31)) &&& (7 : Int32)) - ((cv >>> ((16 : Int32) &&& 31)) &&& (7 : Int32)) / mv * mv) ((1 : Int32) + ((cv >>> ((19 : Int32) &&& 31)) &&& (7 : Int32)))) hc dL_build_516 dL_build_519 (fun d1 hq hk => ?_)
    exact K d1 (by unfold b_12; rw [if_pos h490]; exact hq) hk
def b_13 (cv mv lp : Int32) (p : zs) : zs := if ((cv >>> ((22 : Int32) &&& 31)) &&& (7 : Int32)) = 0 then s_do (fun z => (o_addLamp z ((cv >>> ((25 : Int32) &&& 31)) &&& (3 : Int32)) ((1 : Int32) + ((cv >>> ((27 : Int32) &&& 31)) &&& (7 : Int32))))) p else p
theorem k_13 (hfl : l.stackTraces = false) (C : Mx F p s m args c cL_build wsL_build RL 7) (h : q_R B d zp.1 zp.2) (hB : B + 180 < 100000) (hm0 : ¬ mv = 0) (hm1 : ¬ mv + 1 = 0) (hc : cells + 1 ≤ 400 ∧ slots + 6 ≤ 2700)
    (K : ∀ d1 : xd, q_R (B + 180) d1 (b_13 cv mv lp zp).1 (b_13 cv mv lp zp).2 → q_k d d1 → Lb p l e (x_rm 12 400 2700) s m args below meth c 7 (cells + 1) (slots + 6) Q (w_A s) (m_P F s.heap.size [(b, d1)]) 554 [(6, .int lp), (5, .int mv), (4, .int cv), (3, .int kk), (2, .int x0), (1, .ref b), (0, .ref sb)] []) : Lb p l e (x_rm 12 400 2700) s m args below meth c 7 cells slots Q (w_A s) (m_P F s.heap.size [(b, d)]) 520 [(6, .int lp), (5, .int mv), (4, .int cv), (3, .int kk), (2, .int x0), (1, .ref b), (0, .ref sb)] [] := by
  refine l_iload C.1 dL_build_520 2 rfl ?_
  refine l_bipush C.1 dL_build_522 (v := 22) (by decide) ?_
  refine l_ishr C.1 dL_build_524 ?_
  refine l_bipush C.1 dL_build_525 (v := 7) (by decide) ?_
  refine l_iand C.1 dL_build_527 ?_
  refine l_if_ne C.1 dL_build_528 (tgt := 554) (by decide) (fun h528 => ?_) (fun h528 => ?_)
  · skip
    refine l_widen (k := cells + 1) (n := slots + 6) (Nat.le_add_right _ _) (Nat.le_add_right _ _) ?_
    exact K d (by unfold b_13; rw [if_neg h528]; exact q_R_up h (by omega)) (q_k_refl d)
  · skip
    refine l_aload_n C.1 dL_build_531 5 rfl ?_
    refine l_iconst C.1 dL_build_532 (v := 0) (by decide) ?_
    refine l_iload C.1 dL_build_533 2 rfl ?_
    refine l_bipush C.1 dL_build_535 (v := 25) (by decide) ?_
    refine l_ishr C.1 dL_build_537 ?_
    refine l_iconst C.1 dL_build_538 (v := 3) (by decide) ?_
    refine l_iand C.1 dL_build_539 ?_
    refine l_iconst C.1 dL_build_540 (v := 1) (by decide) ?_
    refine l_iload C.1 dL_build_541 2 rfl ?_
    refine l_bipush C.1 dL_build_543 (v := 27) (by decide) ?_
    refine l_ishr C.1 dL_build_545 ?_
    refine l_bipush C.1 dL_build_546 (v := 7) (by decide) ?_
    refine l_iand C.1 dL_build_548 ?_
    refine l_iadd C.1 dL_build_549 ?_
    refine m_act C (w := 0) (a := ((cv >>> ((25 : Int32) &&& 31)) &&& (3 : Int32))) (b2 := ((1 : Int32) + ((cv >>> ((27 : Int32) &&& 31)) &&& (7 : Int32)))) (c_L_act_0 hfl h hB ((cv >>> ((25 : Int32) &&& 31)) &&& (3 : Int32)) ((1 : Int32) + ((cv >>> ((27 : Int32) &&& 31)) &&& (7 : Int32)))) hc dL_build_550 dL_build_553 (fun d1 hq hk => ?_)
    exact K d1 (by unfold b_13; rw [if_pos h528]; exact hq) hk
def b_14 (cv mv lp : Int32) (p : zs) : zs := if ((cv >>> ((22 : Int32) &&& 31)) &&& (7 : Int32)) = 1 then s_do (fun z => (o_returnWick z (((cv >>> ((25 : Int32) &&& 31)) &&& (7 : Int32)) - ((cv >>> ((25 : Int32) &&& 31)) &&& (7 : Int32)) / mv * mv) ((1 : Int32) + ((cv >>> ((28 : Int32) &&& 31)) &&& (1 : Int32))))) p else p
theorem k_14 (hfl : l.stackTraces = false) (C : Mx F p s m args c cL_build wsL_build RL 7) (h : q_R B d zp.1 zp.2) (hB : B + 180 < 100000) (hm0 : ¬ mv = 0) (hm1 : ¬ mv + 1 = 0) (hc : cells + 1 ≤ 400 ∧ slots + 6 ≤ 2700)
    (K : ∀ d1 : xd, q_R (B + 180) d1 (b_14 cv mv lp zp).1 (b_14 cv mv lp zp).2 → q_k d d1 → Lb p l e (x_rm 12 400 2700) s m args below meth c 7 (cells + 1) (slots + 6) Q (w_A s) (m_P F s.heap.size [(b, d1)]) 593 [(6, .int lp), (5, .int mv), (4, .int cv), (3, .int kk), (2, .int x0), (1, .ref b), (0, .ref sb)] []) : Lb p l e (x_rm 12 400 2700) s m args below meth c 7 cells slots Q (w_A s) (m_P F s.heap.size [(b, d)]) 554 [(6, .int lp), (5, .int mv), (4, .int cv), (3, .int kk), (2, .int x0), (1, .ref b), (0, .ref sb)] [] := by
  refine l_iload C.1 dL_build_554 2 rfl ?_
  refine l_bipush C.1 dL_build_556 (v := 22) (by decide) ?_
  refine l_ishr C.1 dL_build_558 ?_
  refine l_bipush C.1 dL_build_559 (v := 7) (by decide) ?_
  refine l_iand C.1 dL_build_561 ?_
  refine l_iconst C.1 dL_build_562 (v := 1) (by decide) ?_
  refine l_icmp_ne C.1 dL_build_563 (tgt := 593) (by decide) (fun h563 => ?_) (fun h563 => ?_)
  · skip
    refine l_widen (k := cells + 1) (n := slots + 6) (Nat.le_add_right _ _) (Nat.le_add_right _ _) ?_
    exact K d (by unfold b_14; rw [if_neg h563]; exact q_R_up h (by omega)) (q_k_refl d)
  · skip
    refine l_aload_n C.1 dL_build_566 5 rfl ?_
    refine l_bipush C.1 dL_build_567 (v := 8) (by decide) ?_
    refine l_iload C.1 dL_build_569 2 rfl ?_
    refine l_bipush C.1 dL_build_571 (v := 25) (by decide) ?_
    refine l_ishr C.1 dL_build_573 ?_
    refine l_bipush C.1 dL_build_574 (v := 7) (by decide) ?_
    refine l_iand C.1 dL_build_576 ?_
    refine l_iload C.1 dL_build_577 1 rfl ?_
    refine l_irem C.1 dL_build_579 hm0 ?_
    refine l_iconst C.1 dL_build_580 (v := 1) (by decide) ?_
    refine l_iload C.1 dL_build_581 2 rfl ?_
    refine l_bipush C.1 dL_build_583 (v := 28) (by decide) ?_
    refine l_ishr C.1 dL_build_585 ?_
    refine l_iconst C.1 dL_build_586 (v := 1) (by decide) ?_
    refine l_iand C.1 dL_build_587 ?_
    refine l_iadd C.1 dL_build_588 ?_
    refine m_act C (w := 8) (a := (((cv >>> ((25 : Int32) &&& 31)) &&& (7 : Int32)) - ((cv >>> ((25 : Int32) &&& 31)) &&& (7 : Int32)) / mv * mv)) (b2 := ((1 : Int32) + ((cv >>> ((28 : Int32) &&& 31)) &&& (1 : Int32)))) (c_L_act_8 hfl h hB (((cv >>> ((25 : Int32) &&& 31)) &&& (7 : Int32)) - ((cv >>> ((25 : Int32) &&& 31)) &&& (7 : Int32)) / mv * mv) ((1 : Int32) + ((cv >>> ((28 : Int32) &&& 31)) &&& (1 : Int32)))) hc dL_build_589 dL_build_592 (fun d1 hq hk => ?_)
    exact K d1 (by unfold b_14; rw [if_pos h563]; exact hq) hk
def b_15 (cv mv lp : Int32) (p : zs) : zs := if ((cv >>> ((22 : Int32) &&& 31)) &&& (7 : Int32)) = 2 then s_do (fun z => (o_donateWicks z ((1 : Int32) + ((cv >>> ((25 : Int32) &&& 31)) &&& (31 : Int32))))) p else p
theorem k_15 (hfl : l.stackTraces = false) (C : Mx F p s m args c cL_build wsL_build RL 7) (h : q_R B d zp.1 zp.2) (hB : B + 180 < 100000) (hm0 : ¬ mv = 0) (hm1 : ¬ mv + 1 = 0) (hc : cells + 1 ≤ 400 ∧ slots + 6 ≤ 2700)
    (K : ∀ d1 : xd, q_R (B + 180) d1 (b_15 cv mv lp zp).1 (b_15 cv mv lp zp).2 → q_k d d1 → Lb p l e (x_rm 12 400 2700) s m args below meth c 7 (cells + 1) (slots + 6) Q (w_A s) (m_P F s.heap.size [(b, d1)]) 623 [(6, .int lp), (5, .int mv), (4, .int cv), (3, .int kk), (2, .int x0), (1, .ref b), (0, .ref sb)] []) : Lb p l e (x_rm 12 400 2700) s m args below meth c 7 cells slots Q (w_A s) (m_P F s.heap.size [(b, d)]) 593 [(6, .int lp), (5, .int mv), (4, .int cv), (3, .int kk), (2, .int x0), (1, .ref b), (0, .ref sb)] [] := by
  refine l_iload C.1 dL_build_593 2 rfl ?_
  refine l_bipush C.1 dL_build_595 (v := 22) (by decide) ?_
  refine l_ishr C.1 dL_build_597 ?_
  refine l_bipush C.1 dL_build_598 (v := 7) (by decide) ?_
  refine l_iand C.1 dL_build_600 ?_
  refine l_iconst C.1 dL_build_601 (v := 2) (by decide) ?_
  refine l_icmp_ne C.1 dL_build_602 (tgt := 623) (by decide) (fun h602 => ?_) (fun h602 => ?_)
  · skip
    refine l_widen (k := cells + 1) (n := slots + 6) (Nat.le_add_right _ _) (Nat.le_add_right _ _) ?_
    exact K d (by unfold b_15; rw [if_neg h602]; exact q_R_up h (by omega)) (q_k_refl d)
  · skip
    refine l_aload_n C.1 dL_build_605 5 rfl ?_
    refine l_bipush C.1 dL_build_606 (v := 6) (by decide) ?_
    refine l_iconst C.1 dL_build_608 (v := 1) (by decide) ?_
    refine l_iload C.1 dL_build_609 2 rfl ?_
    refine l_bipush C.1 dL_build_611 (v := 25) (by decide) ?_
    refine l_ishr C.1 dL_build_613 ?_
    refine l_bipush C.1 dL_build_614 (v := 31) (by decide) ?_
    refine l_iand C.1 dL_build_616 ?_
    refine l_iadd C.1 dL_build_617 ?_
    refine l_iconst C.1 dL_build_618 (v := 0) (by decide) ?_
    refine m_act C (w := 6) (a := ((1 : Int32) + ((cv >>> ((25 : Int32) &&& 31)) &&& (31 : Int32)))) (b2 := 0) (c_L_act_6 hfl h hB ((1 : Int32) + ((cv >>> ((25 : Int32) &&& 31)) &&& (31 : Int32))) 0) hc dL_build_619 dL_build_622 (fun d1 hq hk => ?_)
    exact K d1 (by unfold b_15; rw [if_pos h602]; exact hq) hk
end LB1
def b_it (cv : Int32) (zp : zs) : zs := (fun lp => (b_15 cv (t_mx (zp.1 0)) lp (b_14 cv (t_mx (zp.1 0)) lp (b_13 cv (t_mx (zp.1 0)) lp (b_12 cv (t_mx (zp.1 0)) lp (b_11 cv (t_mx (zp.1 0)) lp (b_10 cv (t_mx (zp.1 0)) lp (b_9 cv (t_mx (zp.1 0)) lp (b_8 cv (t_mx (zp.1 0)) lp (b_7 cv (t_mx (zp.1 0)) lp (b_6 cv (t_mx (zp.1 0)) lp (b_5 cv (t_mx (zp.1 0)) lp (b_4 cv (t_mx (zp.1 0)) lp (b_3 cv (t_mx (zp.1 0)) lp (b_2 cv (t_mx (zp.1 0)) lp (b_1 cv (t_mx (zp.1 0)) lp (b_0 cv (t_mx (zp.1 0)) lp zp))))))))))))))))) ((cv &&& 7) - (cv &&& 7) / t_mx (zp.1 0) * t_mx (zp.1 0))
def b_lp (x0 : Int32) : Nat → zs
  | 0 => (fun _ => 0, [])
  | k + 1 => s_do (fun z => o_addLamp z (((x0 >>> (((2 : Int32) + (nI k)) &&& 31)) &&& (3 : Int32))) (((1 : Int32) + ((x0 >>> (((6 : Int32) + ((3 : Int32) * (nI k))) &&& 31)) &&& (7 : Int32))))) (b_lp x0 k)
def b_in (x0 : Int32) : zs := s_do (fun z => (o_deliverOil z (((40 : Int32) + ((x0 >>> ((24 : Int32) &&& 31)) &&& (63 : Int32)))))) (s_do (fun z => (o_donateWicks z 30)) (b_lp x0 (q_i (2 + (x0 &&& 3)))))
def b_m (L : Nat) (xs : Nat → Int32) : Nat → zs
  | 0 => b_in (t_at L xs 0)
  | j + 1 => b_it (t_at L xs (j + 1)) (b_m L xs j)
theorem x_lt13 {j : Nat} (h : j < 12) : ¬ nI 13 ≤ nI (j + 1) := fun y => by
  have := (nI_leI (by omega) (by omega)).mp y
  omega
theorem b_hin : ∀ w ∈ u_ws RX11 TX11 13, w ∈ wsL_build := fun w h => List.mem_cons_of_mem _ (List.mem_append_left _ (List.mem_append_left _ (List.mem_append_left _ (List.mem_append_left _ (List.mem_append_left _ (List.mem_append_left _ (List.mem_append_left _ (List.mem_append_left _ (List.mem_append_left _ (List.mem_append_left _ (List.mem_append_left _ (List.mem_append_left _ (List.mem_append_left _ (List.mem_append_right _ h))))))))))))))
theorem q_0 : q_R 0 x_d0 (fun _ => 0) [] := by
  have z : ∀ k j, k ≠ 0 → k ≠ 175 → x_d0 k j = 0 := fun k j h h2 => if_neg (fun q => by omega)
  refine ⟨⟨0, 0, ⟨?_, rfl, ?_, rfl, fun i hi => absurd hi (Nat.not_lt_zero i), fun i hi => absurd hi (Nat.not_lt_zero i), ?_⟩, ⟨by omega, by omega, fun i hi => absurd hi (Nat.not_lt_zero i), fun i hi => absurd hi (Nat.not_lt_zero i), 0, by omega, ?_⟩, ⟨fun _ => 0, 0, fun i hi => absurd hi (Nat.not_lt_zero i), ?_, Nat.le_refl 0⟩, ?_⟩, 0, ?_, by omega, ?_, Nat.zero_le 8, fun j z9 hj => by simp at hj⟩
  · exact (z _ _ (by omega) (by omega)).trans nI_0.symm
  · exact (z _ _ (by omega) (by omega)).trans nI_0.symm
  · exact ⟨z _ _ (by omega) (by omega), z _ _ (by omega) (by omega), z _ _ (by omega) (by omega), z _ _ (by omega) (by omega)⟩
  · exact (z _ _ (by omega) (by omega)).trans nI_0.symm
  · exact (z _ _ (by omega) (by omega)).trans nI_0.symm
  · unfold f_bal
    refine ⟨?_, ?_, ?_⟩ <;> simp [f_sum, z]
  · exact (z _ _ (by omega) (by omega)).trans nI_0.symm
  · exact (z _ _ (by omega) (by omega)).trans nI_0.symm
/-- what a call of build is asked and gives -/
def b_U (F : xF) (sz sb L : Nat) (xs : Nat → Int32) (U : State) : Prop := U.heap.size = sz ∧ va_X sb L xs U U.heap ∧ fl_K F U
def b_Q (F : xF) (sz : Nat) (zp : zs) : Array Value → State → Outcome → State → Prop := fun _ st oc t => ∃ (b : Nat) (d : xd), oc = .returned (some (.ref b)) ∧ sz ≤ b ∧ va_P F.1 vwCl (x_ws (w_B F b) d) t.heap ∧ (q_R 38000 d zp.1 zp.2 ∧ q_k x_d0 d) ∧ va_F (fun q => sz ≤ q) st t
set_option maxHeartbeats 4000000 in
set_option maxRecDepth 100000 in
theorem c_L_build (l : Launch) (hfl : l.stackTraces = false) (F : xF) (sz sb L : Nat) (xs : Nat → Int32) (hL : L < 1000) : Met l yL_build wsL_build (x_rm 12 400 2700) (va_Pc [.ref sb] (b_U F sz sb L xs)) (b_Q F sz (b_m L xs 12)) 400 2700 (fun q => sz ≤ q) := by
  refine Met.ofW (cc := cL_build) (maxL := 7) (ret := some (.object "LampCooperative")) (by decide) rfl ?_
  intro p e s m args below meth c s₁ B9 hml hv
  obtain ⟨rfl, hsz, hX, hK⟩ := hv
  have hX : va_X sb L xs s s.heap := hX
  have hl0 := lv_entry [Value.ref sb] (n := 7) (Nat.le_of_ble_eq_true rfl)
  rw [lg_entry_eq]
  have C : Mx F p s m _ c cL_build wsL_build RL 7 := ⟨⟨B9.exec, B9.bytes, hml, findClass_of_methodNamed B9.named, atoms_spec (ws := wsL_build) B9.pre⟩, hK⟩
  obtain ⟨args, hargs⟩ : ∃ args, args = ([Value.ref sb] : List Value).toArray := ⟨_, rfl⟩
  rw [← hargs] at C ⊢
  obtain ⟨Q, hQ⟩ : ∃ Q, Q = MQ below (b_Q F sz (b_m L xs 12)) args s 400 2700 (fun q => sz ≤ q) := ⟨_, rfl⟩
  rw [← hQ]
  suffices hgo : Lb p l e (x_rm 12 400 2700) s m args below meth c 7 0 0 Q (w_A s) (m_P F s.heap.size []) 0 [(0, .ref sb)] [] from hgo s.heap [] _ trivial va_S.rf hl0
  refine m_new C (index := 18) (i2 := 23) b_hin (by decide +kernel) (by decide +kernel) (by decide +kernel) (cwI 0 C.1.2.2.2.2 gL_build_X11_init rfl rfl rfl (C.1.2.2.2.2 _ (by decide +kernel)) (C.1.2.2.2.2 _ (by decide +kernel)) (C.1.2.2.2.2 _ (by decide +kernel)) rfl (by decide +kernel) ⟨Nat.le_of_ble_eq_true rfl, Nat.le_of_ble_eq_true rfl⟩) (Nat.le_of_ble_eq_true rfl) (Nat.le_of_ble_eq_true rfl) (Nat.le_of_ble_eq_true rfl) dL_build_0 dL_build_3 dL_build_4 (fun b => ?_)
  refine l_astore_n C.1 dL_build_7 (by decide) (lst2 := [(1, .ref b), (0, .ref sb)]) rfl ?_
  refine l_aload_n C.1 dL_build_8 1 rfl ?_
  refine l_iconst C.1 dL_build_9 (v := 0) (by decide) ?_
  refine m_at C (k := 0) hX hL (by omega) rfl (va_cwS 2 C.1.2.2.2.2 gL_build_L_at rfl rfl rfl (by decide +kernel) ⟨Nat.le_of_ble_eq_true rfl, Nat.le_of_ble_eq_true rfl⟩) (Nat.le_of_ble_eq_true rfl) dL_build_10 ⟨by dsimp only [x_rm]; omega, by dsimp only [x_rm]; omega⟩ ?_
  refine l_istore_n C.1 dL_build_13 (by decide) (lst2 := [(2, .int (t_at L xs 0)), (1, .ref b), (0, .ref sb)]) rfl ?_
  generalize hx0 : t_at L xs 0 = x0
  refine l_iconst C.1 dL_build_14 (v := 0) (by decide) ?_
  refine l_istore_n C.1 dL_build_15 (by decide) (lst2 := [(3, .int 0), (2, .int x0), (1, .ref b), (0, .ref sb)]) rfl ?_
  obtain ⟨a3, ha3, e3⟩ := s_and x0 (m := 3) (by omega)
  have e3 : x0 &&& 3 = nI a3 := e3
  have en : (2 : Int32) + (x0 &&& 3) = nI (2 + a3) := by rw [e3]; exact nI_add 2 a3
  have eq : q_i (2 + (x0 &&& 3)) = 2 + a3 := by rw [en]; exact q_i_n (by omega)
  have Kend : ∀ d : xd, q_R (1260 + 3060 * 12) d (b_m L xs 12).1 (b_m L xs 12).2 → q_k x_d0 d → Lb p l e (x_rm 12 400 2700) s m args below meth c 7 (182 + 17 * 12) (1358 + 102 * 12) Q (w_A s) (m_P F s.heap.size [(b, d)]) 630 [(3, .int (nI (12 + 1))), (2, .int x0), (1, .ref b), (0, .ref sb)] [.ref b] := by
    intro d h hkd H locs ls hP hS hl
    rw [hQ]
    refine W.widen (k := 400) (n := 2700) (by omega) (by omega) ?_
    exact W.aret C.1.1 C.1.2.1 B9.returns (Or.inl ⟨_, rfl⟩) (Or.inr ⟨b, rfl⟩) (fun t ht _ => ⟨b, d, rfl, by rw [← hsz]; exact hP.1.1, by rw [ht]; exact hP.1.2.1, ⟨q_R_up h (by omega), hkd⟩, by rw [← hsz]; exact va_S.F (A := w_A s) hS ht⟩) (by rw [← hsz]; exact hS.2.2) dL_build_630 B9.notSynchronized
  have hb0 : b_m L xs 0 = b_in x0 := by rw [← hx0]; rfl
  have L86 : ∀ (r j : Nat) (d : xd), r + j = 12 → 0 ≤ r → q_R (1260 + 3060 * j) d (b_m L xs j).1 (b_m L xs j).2 → q_k x_d0 d → Lb p l e (x_rm 12 400 2700) s m args below meth c 7 (182 + 17 * j) (1358 + 102 * j) Q (w_A s) (m_P F s.heap.size [(b, d)]) 86 [(3, .int (nI (j + 1))), (2, .int x0), (1, .ref b), (0, .ref sb)] [] := by
    intro r
    induction r with
    | zero =>
      intro j d hj _ h hkd
      obtain rfl : j = 12 := by omega
      refine l_iload_n C.1 dL_build_86 0 rfl ?_
      refine l_bipush C.1 dL_build_87 (v := 13) (by decide) ?_
      refine l_icmp_ge C.1 dL_build_89 (tgt := 629) (by decide) (fun h89 => ?_) (fun h => absurd (by decide) h)
      refine l_aload_n C.1 dL_build_629 2 rfl ?_
      exact Kend d h hkd
    | succ r ih =>
      intro j d hj _ h hkd
      have hj12 : j < 12 := by omega
      obtain ⟨hn0, n9, hn9, en9⟩ := q_n1 h
      have hm1 : ¬ t_mx ((b_m L xs j).1 0) + 1 = 0 := by rw [en9]; exact t_mx_1 n9 hn9
      refine l_iload_n C.1 dL_build_86 0 rfl ?_
      refine l_bipush C.1 dL_build_87 (v := 13) (by decide) ?_
      refine l_icmp_ge C.1 dL_build_89 (tgt := 629) (by decide) (fun h => absurd h (x_lt13 hj12)) (fun h89 => ?_)
      refine l_aload_n C.1 dL_build_92 3 rfl ?_
      refine l_iload_n C.1 dL_build_93 0 rfl ?_
      refine m_at C (k := j + 1) hX hL (by omega) rfl (va_cwS 2 C.1.2.2.2.2 gL_build_L_at rfl rfl rfl (by decide +kernel) ⟨Nat.le_of_ble_eq_true rfl, Nat.le_of_ble_eq_true rfl⟩) (Nat.le_of_ble_eq_true rfl) dL_build_94 ⟨by dsimp only [x_rm]; omega, by dsimp only [x_rm]; omega⟩ ?_
      refine l_istore C.1 dL_build_97 (by decide) (lst2 := [(4, .int (t_at L xs (j + 1))), (3, .int (nI (j + 1))), (2, .int x0), (1, .ref b), (0, .ref sb)]) rfl ?_
      refine l_iconst C.1 dL_build_99 (v := 1) (by decide) ?_
      refine l_aload_n C.1 dL_build_100 3 rfl ?_
      refine m_callV C (b := b) (As := []) (rest := [.int 1]) (c_F_lampCount l (w_B F b) d) (cwV 0 C.1.2.2.2.2 gL_build_X11_lampCount rfl rfl rfl (by decide +kernel) ⟨Nat.le_of_ble_eq_true rfl, Nat.le_of_ble_eq_true rfl⟩) rfl rfl (Nat.le_of_ble_eq_true rfl) dL_build_101 ⟨by dsimp only [x_rm]; omega, by dsimp only [x_rm]; omega⟩ ?_
      refine l_top (y := (b_m L xs j).1 0) hn0 ?_
      refine l_mmax C.1 (by decide +kernel) (by decide +kernel) (by decide +kernel) (by decide +kernel) (Nat.le_of_ble_eq_true rfl) (Nat.le_of_ble_eq_true rfl) (by dsimp only [x_rm]; omega) (by dsimp only [x_rm]; omega) dL_build_104 ?_
      refine l_top (y := t_mx ((b_m L xs j).1 0)) rfl ?_
      refine l_istore C.1 dL_build_107 (by decide) (lst2 := [(5, .int (t_mx ((b_m L xs j).1 0))), (4, .int (t_at L xs (j + 1))), (3, .int (nI (j + 1))), (2, .int x0), (1, .ref b), (0, .ref sb)]) rfl ?_
      refine l_iload C.1 dL_build_109 1 rfl ?_
      refine l_bipush C.1 dL_build_111 (v := 7) (by decide) ?_
      refine l_iand C.1 dL_build_113 ?_
      refine l_iload C.1 dL_build_114 0 rfl ?_
      refine l_irem C.1 dL_build_116 (t_mx_ne _) ?_
      refine l_istore C.1 dL_build_117 (by decide) (lst2 := [(6, .int (((t_at L xs (j + 1)) &&& (7 : Int32)) - ((t_at L xs (j + 1)) &&& (7 : Int32)) / (t_mx ((b_m L xs j).1 0)) * (t_mx ((b_m L xs j).1 0)))), (5, .int (t_mx ((b_m L xs j).1 0))), (4, .int (t_at L xs (j + 1))), (3, .int (nI (j + 1))), (2, .int x0), (1, .ref b), (0, .ref sb)]) rfl ?_
      refine l_sub (lst2 := [(6, .int (((t_at L xs (j + 1)) &&& (7 : Int32)) - ((t_at L xs (j + 1)) &&& (7 : Int32)) / (t_mx ((b_m L xs j).1 0)) * (t_mx ((b_m L xs j).1 0)))), (5, .int (t_mx ((b_m L xs j).1 0))), (4, .int (t_at L xs (j + 1))), (3, .int (nI (j + 1))), (2, .int x0), (1, .ref b), (0, .ref sb)]) [0, 1, 2, 3, 4, 5, 6] rfl ?_
      have hm0 := t_mx_ne ((b_m L xs j).1 0)
      generalize hcv : (t_at L xs (j + 1)) = cv
      have hit : b_m L xs (j + 1) = b_it cv (b_m L xs j) := by rw [← hcv]; rfl
      generalize hzp : b_m L xs j = zp at *
      generalize hmv : t_mx (zp.1 0) = mv at *
      generalize hlp : (cv &&& 7) - (cv &&& 7) / mv * mv = lp
      refine k_0 hfl C h (by omega) hm0 hm1 ⟨by omega, by omega⟩ (fun d1 h hk0 => ?_)
      refine k_1 hfl C h (by omega) hm0 hm1 ⟨by omega, by omega⟩ (fun d2 h hk1 => ?_)
      refine k_2 hfl C h (by omega) hm0 hm1 ⟨by omega, by omega⟩ (fun d3 h hk2 => ?_)
      refine k_3 hfl C h (by omega) hm0 hm1 ⟨by omega, by omega⟩ (fun d4 h hk3 => ?_)
      refine k_4 hfl C h (by omega) hm0 hm1 ⟨by omega, by omega⟩ (fun d5 h hk4 => ?_)
      refine k_5 hfl C h (by omega) hm0 hm1 ⟨by omega, by omega⟩ (fun d6 h hk5 => ?_)
      refine k_6 hfl C h (by omega) hm0 hm1 ⟨by omega, by omega⟩ (fun d7 h hk6 => ?_)
      refine k_7 hfl C h (by omega) hm0 hm1 ⟨by omega, by omega⟩ (fun d8 h hk7 => ?_)
      refine k_8 hfl C h (by omega) hm0 hm1 ⟨by omega, by omega⟩ (fun d9 h hk8 => ?_)
      refine k_9 hfl C h (by omega) hm0 hm1 ⟨by omega, by omega⟩ (fun d10 h hk9 => ?_)
      refine k_10 hfl C h (by omega) hm0 hm1 ⟨by omega, by omega⟩ (fun d11 h hk10 => ?_)
      refine k_11 hfl C h (by omega) hm0 hm1 ⟨by omega, by omega⟩ (fun d12 h hk11 => ?_)
      refine k_12 hfl C h (by omega) hm0 hm1 ⟨by omega, by omega⟩ (fun d13 h hk12 => ?_)
      refine k_13 hfl C h (by omega) hm0 hm1 ⟨by omega, by omega⟩ (fun d14 h hk13 => ?_)
      refine k_14 hfl C h (by omega) hm0 hm1 ⟨by omega, by omega⟩ (fun d15 h hk14 => ?_)
      refine k_15 hfl C h (by omega) hm0 hm1 ⟨by omega, by omega⟩ (fun d16 h hk15 => ?_)
      refine l_iinc C.1 dL_build_623 3 rfl (v := (nI (j + 1 + 1))) (x_inc (j + 1)) (by decide) (lst2 := [(3, .int (nI (j + 1 + 1))), (6, .int lp), (5, .int mv), (4, .int cv), (2, .int x0), (1, .ref b), (0, .ref sb)]) rfl ?_
      refine l_goto C.1 dL_build_626 (tgt := 86) (by decide) ?_
      refine l_sub (lst2 := [(3, .int (nI (j + 1 + 1))), (2, .int x0), (1, .ref b), (0, .ref sb)]) [0, 4, 5, 6] rfl ?_
      refine l_widen (k := 182 + 17 * (j + 1)) (n := 1358 + 102 * (j + 1)) (by omega) (by omega) ?_
      refine ih (j + 1) d16 (by omega) (by omega) ?_ (q_k_trans (q_k_trans (q_k_trans (q_k_trans (q_k_trans (q_k_trans (q_k_trans (q_k_trans (q_k_trans (q_k_trans (q_k_trans (q_k_trans (q_k_trans (q_k_trans (q_k_trans (q_k_trans hkd hk0) hk1) hk2) hk3) hk4) hk5) hk6) hk7) hk8) hk9) hk10) hk11) hk12) hk13) hk14) hk15)
      have hz : b_m L xs (j + 1) = (b_15 cv mv lp (b_14 cv mv lp (b_13 cv mv lp (b_12 cv mv lp (b_11 cv mv lp (b_10 cv mv lp (b_9 cv mv lp (b_8 cv mv lp (b_7 cv mv lp (b_6 cv mv lp (b_5 cv mv lp (b_4 cv mv lp (b_3 cv mv lp (b_2 cv mv lp (b_1 cv mv lp (b_0 cv mv lp zp)))))))))))))))) := by
        rw [hit]
        unfold b_it
        rw [hmv, hlp]
      rw [hz]
      exact q_R_up h (by omega)
  have L57 : ∀ d : xd, q_R 900 d (b_lp x0 (q_i (2 + (x0 &&& 3)))).1 (b_lp x0 (q_i (2 + (x0 &&& 3)))).2 → q_k x_d0 d → Lb p l e (x_rm 12 400 2700) s m args below meth c 7 180 1346 Q (w_A s) (m_P F s.heap.size [(b, d)]) 57 [(2, .int x0), (1, .ref b), (0, .ref sb)] [] := by
    intro d h hkd
    refine l_aload_n C.1 dL_build_57 1 rfl ?_
    refine l_bipush C.1 dL_build_58 (v := 6) (by decide) ?_
    refine l_bipush C.1 dL_build_60 (v := 30) (by decide) ?_
    refine l_iconst C.1 dL_build_62 (v := 0) (by decide) ?_
    refine m_act C (zp := b_lp x0 (q_i (2 + (x0 &&& 3)))) (w := 6) (a := 30) (b2 := 0) (c_L_act_6 hfl h (by omega) 30 0) ⟨by omega, by omega⟩ dL_build_63 dL_build_66 (fun d1 h hk9 => ?_)
    refine l_aload_n C.1 dL_build_67 1 rfl ?_
    refine l_iconst C.1 dL_build_68 (v := 5) (by decide) ?_
    refine l_bipush C.1 dL_build_69 (v := 40) (by decide) ?_
    refine l_iload_n C.1 dL_build_71 0 rfl ?_
    refine l_bipush C.1 dL_build_72 (v := 24) (by decide) ?_
    refine l_ishr C.1 dL_build_74 ?_
    refine l_bipush C.1 dL_build_75 (v := 63) (by decide) ?_
    refine l_iand C.1 dL_build_77 ?_
    refine l_iadd C.1 dL_build_78 ?_
    refine l_iconst C.1 dL_build_79 (v := 0) (by decide) ?_
    refine m_act C (zp := s_do (fun z => (o_donateWicks z 30)) (b_lp x0 (q_i (2 + (x0 &&& 3))))) (w := 5) (a := ((40 : Int32) + ((x0 >>> ((24 : Int32) &&& 31)) &&& (63 : Int32)))) (b2 := 0) (c_L_act_5 hfl h (by omega) ((40 : Int32) + ((x0 >>> ((24 : Int32) &&& 31)) &&& (63 : Int32))) 0) ⟨by omega, by omega⟩ dL_build_80 dL_build_83 (fun d2 h hk8 => ?_)
    refine l_iconst C.1 dL_build_84 (v := 1) (by decide) ?_
    refine l_istore_n C.1 dL_build_85 (by decide) (lst2 := [(3, .int 1), (2, .int x0), (1, .ref b), (0, .ref sb)]) rfl ?_
    refine l_sub (lst2 := [(3, .int (nI 1)), (2, .int x0), (1, .ref b), (0, .ref sb)]) [0, 1, 2, 3] rfl ?_
    exact L86 12 0 d2 (by omega) (by omega) (by rw [hb0]; exact q_R_up h (by omega)) (q_k_trans (q_k_trans hkd hk9) hk8)
  have L16 : ∀ (j k : Nat) (d : xd), k ≤ 2 + a3 → 2 + a3 < k + j → q_R (180 * k) d (b_lp x0 k).1 (b_lp x0 k).2 → q_k x_d0 d → Lb p l e (x_rm 12 400 2700) s m args below meth c 7 (175 + k) (1316 + 6 * k) Q (w_A s) (m_P F s.heap.size [(b, d)]) 16 [(3, .int (nI k)), (2, .int x0), (1, .ref b), (0, .ref sb)] [] := by
    intro j
    induction j with
    | zero => intro k d h1 h2; exact absurd h2 (by omega)
    | succ j ih =>
      intro k d hk hj h hkd
      refine l_iload_n C.1 dL_build_16 0 rfl ?_
      refine l_iconst C.1 dL_build_17 (v := 2) (by decide) ?_
      refine l_iload_n C.1 dL_build_18 1 rfl ?_
      refine l_iconst C.1 dL_build_19 (v := 3) (by decide) ?_
      refine l_iand C.1 dL_build_20 ?_
      refine l_iadd C.1 dL_build_21 ?_
      refine l_top (y := (nI (2 + a3))) en ?_
      refine l_icmp_ge C.1 dL_build_22 (tgt := 57) (by decide) (fun h22 => ?_) (fun h22 => ?_)
      · skip
        have e : k = 2 + a3 := x_ge h22 hk (by omega)
        refine l_widen (k := 180) (n := 1346) (by omega) (by omega) ?_
        refine l_sub (lst2 := [(2, .int x0), (1, .ref b), (0, .ref sb)]) [1, 2, 3] rfl ?_
        exact L57 d (by rw [eq, ← e]; exact q_R_up h (by omega)) hkd
      · skip
        have hlt := x_nge h22 hk
        refine l_aload_n C.1 dL_build_25 2 rfl ?_
        refine l_iconst C.1 dL_build_26 (v := 0) (by decide) ?_
        refine l_iload_n C.1 dL_build_27 1 rfl ?_
        refine l_iconst C.1 dL_build_28 (v := 2) (by decide) ?_
        refine l_iload_n C.1 dL_build_29 0 rfl ?_
        refine l_iadd C.1 dL_build_30 ?_
        refine l_ishr C.1 dL_build_31 ?_
        refine l_iconst C.1 dL_build_32 (v := 3) (by decide) ?_
        refine l_iand C.1 dL_build_33 ?_
        refine l_iconst C.1 dL_build_34 (v := 1) (by decide) ?_
        refine l_iload_n C.1 dL_build_35 1 rfl ?_
        refine l_bipush C.1 dL_build_36 (v := 6) (by decide) ?_
        refine l_iconst C.1 dL_build_38 (v := 3) (by decide) ?_
        refine l_iload_n C.1 dL_build_39 0 rfl ?_
        refine l_imul C.1 dL_build_40 ?_
        refine l_iadd C.1 dL_build_41 ?_
        refine l_ishr C.1 dL_build_42 ?_
        refine l_bipush C.1 dL_build_43 (v := 7) (by decide) ?_
        refine l_iand C.1 dL_build_45 ?_
        refine l_iadd C.1 dL_build_46 ?_
        refine m_act C (zp := b_lp x0 k) (w := 0) (a := ((x0 >>> (((2 : Int32) + (nI k)) &&& 31)) &&& (3 : Int32))) (b2 := ((1 : Int32) + ((x0 >>> (((6 : Int32) + ((3 : Int32) * (nI k))) &&& 31)) &&& (7 : Int32)))) (c_L_act_0 hfl h (by omega) ((x0 >>> (((2 : Int32) + (nI k)) &&& 31)) &&& (3 : Int32)) ((1 : Int32) + ((x0 >>> (((6 : Int32) + ((3 : Int32) * (nI k))) &&& 31)) &&& (7 : Int32)))) ⟨by omega, by omega⟩ dL_build_47 dL_build_50 (fun d1 hq hk9 => ?_)
        refine l_iinc C.1 dL_build_51 0 rfl (v := (nI (k + 1))) (x_inc k) (by decide) (lst2 := [(3, .int (nI (k + 1))), (2, .int x0), (1, .ref b), (0, .ref sb)]) rfl ?_
        refine l_goto C.1 dL_build_54 (tgt := 16) (by decide) ?_
        refine l_sub (lst2 := [(3, .int (nI (k + 1))), (2, .int x0), (1, .ref b), (0, .ref sb)]) [0, 1, 2, 3] rfl ?_
        exact ih (k + 1) d1 (by omega) (by omega) (q_R_up hq (by omega)) (q_k_trans hkd hk9)
  exact L16 (3 + a3) 0 x_d0 (by omega) (by omega) (q_R_up q_0 (by omega)) (q_k_refl _)
