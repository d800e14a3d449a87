/-! THE LAW: the known cooperative -/
section LZ
variable {l : Launch} {F : xF} {p : Program} {e : Env} {s : State} {m : MethodId} {args : Array Value} {below : List Frame} {meth : Method} {c : Code} {Q : State → Prop} {bx bz sb b : Nat} {dx dz : xd} {now many cc : Int32} {hs : List (Nat → Int32)}
set_option maxHeartbeats 2000000 in
theorem z_8 (C : Mx F p s m args c cL_law wsL_law RL 9) (hfl : l.stackTraces = false) (hb5 : b < 5) (hb1 : 1 ≤ b) (h : q_R 3600 dz (zt_20 b) hs)
    (K : ∀ (d : xd) (hs : List (Nat → Int32)), q_R 4000 d (zt_22 b) hs → Lb p l e room_1 s m args below meth c 9 1410 8200 Q (w_A s) (m_P F s.heap.size [(bz, d), (bx, dx)]) 1191 [(8, .ref bz), (7, .int (6 * nI b)), (6, .int (nI b)), (5, .int cc), (4, .int now), (3, .int many), (1, .ref bx), (0, .ref sb)] []) : Lb p l e room_1 s m args below meth c 9 1410 8200 Q (w_A s) (m_P F s.heap.size [(bz, dz), (bx, dx)]) 1088 [(8, .ref bz), (7, .int (6 * nI b)), (6, .int (nI b)), (5, .int cc), (4, .int now), (3, .int many), (1, .ref bx), (0, .ref sb)] [] := by
  refine l_aload C.1 dL_law_1088 0 rfl ?_
  refine l_iconst C.1 dL_law_1090 (v := 0) (by decide) ?_
  refine l_iload C.1 dL_law_1091 2 rfl ?_
  obtain ⟨d1, lv1, hlv1, hm1, h, hk1⟩ := q_A_ok (q_buyOil hfl h (by omega) 0 (nI b)) (zq_ob b hb5 hb1)
  refine m_callV C (b := bz) (As := [.int 0, .int (nI b)]) (rest := []) (hm1 (w_B F bz)) (cwV 2 C.1.2.2.2.2 gL_law_X11_buyOil rfl rfl rfl (by decide +kernel) ⟨by dsimp only [x_rm, room_1]; omega, by dsimp only [x_rm, room_1]; omega⟩) rfl rfl (Nat.le_of_ble_eq_true rfl) dL_law_1093 ⟨Nat.le_of_ble_eq_true rfl, Nat.le_of_ble_eq_true rfl⟩ ?_
  refine l_iload C.1 dL_law_1096 2 rfl ?_
  refine l_icmp_ne C.1 dL_law_1098 (tgt := 1189) (by decide) (fun h => absurd rfl h) (fun h1098 => ?_)
  refine l_aload C.1 dL_law_1101 0 rfl ?_
  refine l_iconst C.1 dL_law_1103 (v := 0) (by decide) ?_
  obtain ⟨d2, lv2, hlv2, hm2, h, hk2⟩ := qa_balanceOf 0 h (zq_v0 b hb5 hb1).1 (zq_v0 b hb5 hb1).2
  refine m_callV C (b := bz) (As := [.int 0]) (rest := []) (hm2 (w_B F bz)) (cwV 1 C.1.2.2.2.2 gL_law_X11_balanceOf rfl rfl rfl (by decide +kernel) ⟨by dsimp only [x_rm, room_1]; omega, by dsimp only [x_rm, room_1]; omega⟩) rfl rfl (Nat.le_of_ble_eq_true rfl) dL_law_1104 ⟨Nat.le_of_ble_eq_true rfl, Nat.le_of_ble_eq_true rfl⟩ ?_
  refine l_bipush C.1 dL_law_1107 (v := 6) (by decide) ?_
  refine l_iload C.1 dL_law_1109 2 rfl ?_
  refine l_isub C.1 dL_law_1111 ?_
  refine l_icmp_ne C.1 dL_law_1112 (tgt := 1189) (by decide) (fun h => absurd rfl h) (fun h1112 => ?_)
  refine l_aload C.1 dL_law_1115 0 rfl ?_
  obtain ⟨d3, lv3, hlv3, hm3, h, hk3⟩ := qa_reserve h (zq_v1 b hb5 hb1)
  refine m_callV C (b := bz) (As := []) (rest := []) (hm3 (w_B F bz)) (cwV 0 C.1.2.2.2.2 gL_law_X11_reserve rfl rfl rfl (by decide +kernel) ⟨by dsimp only [x_rm, room_1]; omega, by dsimp only [x_rm, room_1]; omega⟩) rfl rfl (Nat.le_of_ble_eq_true rfl) dL_law_1117 ⟨Nat.le_of_ble_eq_true rfl, Nat.le_of_ble_eq_true rfl⟩ ?_
  refine l_if_ne C.1 dL_law_1120 (tgt := 1189) (by decide) (fun h => absurd h (by decide)) (fun h1120 => ?_)
  refine l_aload C.1 dL_law_1123 0 rfl ?_
  obtain ⟨d4, lv4, hlv4, hm4, h, hk4⟩ := qa_treasury h (zq_v2 b hb5 hb1)
  refine m_callV C (b := bz) (As := []) (rest := []) (hm4 (w_B F bz)) (cwV 0 C.1.2.2.2.2 gL_law_X11_treasury rfl rfl rfl (by decide +kernel) ⟨by dsimp only [x_rm, room_1]; omega, by dsimp only [x_rm, room_1]; omega⟩) rfl rfl (Nat.le_of_ble_eq_true rfl) dL_law_1125 ⟨Nat.le_of_ble_eq_true rfl, Nat.le_of_ble_eq_true rfl⟩ ?_
  refine l_bipush C.1 dL_law_1128 (v := 26) (by decide) ?_
  refine l_iload C.1 dL_law_1130 2 rfl ?_
  refine l_iadd C.1 dL_law_1132 ?_
  refine l_icmp_ne C.1 dL_law_1133 (tgt := 1189) (by decide) (fun h => absurd rfl h) (fun h1133 => ?_)
  refine l_aload C.1 dL_law_1136 0 rfl ?_
  obtain ⟨d5, lv5, hlv5, hm5, h, hk5⟩ := q_A_ok (q_burnNight hfl h (by omega)) (zq_oc b hb5 hb1)
  refine m_callV C (b := bz) (As := []) (rest := []) (hm5 (w_B F bz)) (cwV 0 C.1.2.2.2.2 gL_law_X11_burnNight rfl rfl rfl (by decide +kernel) ⟨by dsimp only [x_rm, room_1]; omega, by dsimp only [x_rm, room_1]; omega⟩) rfl rfl (Nat.le_of_ble_eq_true rfl) dL_law_1138 ⟨Nat.le_of_ble_eq_true rfl, Nat.le_of_ble_eq_true rfl⟩ ?_
  refine l_iconst C.1 dL_law_1141 (v := 1) (by decide) ?_
  refine l_icmp_ne C.1 dL_law_1142 (tgt := 1189) (by decide) (fun h => absurd rfl h) (fun h1142 => ?_)
  refine l_aload C.1 dL_law_1145 0 rfl ?_
  refine l_iconst C.1 dL_law_1147 (v := 0) (by decide) ?_
  obtain ⟨d6, lv6, hlv6, hm6, h, hk6⟩ := qa_oilOf 0 h (zq_v3 b hb5 hb1).1 (zq_v3 b hb5 hb1).2
  refine m_callV C (b := bz) (As := [.int 0]) (rest := []) (hm6 (w_B F bz)) (cwV 1 C.1.2.2.2.2 gL_law_X11_oilOf rfl rfl rfl (by decide +kernel) ⟨by dsimp only [x_rm, room_1]; omega, by dsimp only [x_rm, room_1]; omega⟩) rfl rfl (Nat.le_of_ble_eq_true rfl) dL_law_1148 ⟨Nat.le_of_ble_eq_true rfl, Nat.le_of_ble_eq_true rfl⟩ ?_
  refine l_if_ne C.1 dL_law_1151 (tgt := 1189) (by decide) (fun h => absurd h (by decide)) (fun h1151 => ?_)
  refine l_aload C.1 dL_law_1154 0 rfl ?_
  obtain ⟨d7, lv7, hlv7, hm7, h, hk7⟩ := qa_mothCount h (zq_v4 b hb5 hb1)
  refine m_callV C (b := bz) (As := []) (rest := []) (hm7 (w_B F bz)) (cwV 0 C.1.2.2.2.2 gL_law_X11_mothCount rfl rfl rfl (by decide +kernel) ⟨by dsimp only [x_rm, room_1]; omega, by dsimp only [x_rm, room_1]; omega⟩) rfl rfl (Nat.le_of_ble_eq_true rfl) dL_law_1156 ⟨Nat.le_of_ble_eq_true rfl, Nat.le_of_ble_eq_true rfl⟩ ?_
  refine l_iconst C.1 dL_law_1159 (v := 1) (by decide) ?_
  refine l_icmp_ne C.1 dL_law_1160 (tgt := 1189) (by decide) (fun h => absurd rfl h) (fun h1160 => ?_)
  refine l_aload C.1 dL_law_1163 0 rfl ?_
  refine l_iconst C.1 dL_law_1165 (v := 0) (by decide) ?_
  obtain ⟨d8, lv8, hlv8, hm8, h, hk8⟩ := qa_strikesOf 0 h (zq_v5 b hb5 hb1).1 (zq_v5 b hb5 hb1).2
  refine m_callV C (b := bz) (As := [.int 0]) (rest := []) (hm8 (w_B F bz)) (cwV 1 C.1.2.2.2.2 gL_law_X11_strikesOf rfl rfl rfl (by decide +kernel) ⟨by dsimp only [x_rm, room_1]; omega, by dsimp only [x_rm, room_1]; omega⟩) rfl rfl (Nat.le_of_ble_eq_true rfl) dL_law_1166 ⟨Nat.le_of_ble_eq_true rfl, Nat.le_of_ble_eq_true rfl⟩ ?_
  refine l_if_ne C.1 dL_law_1169 (tgt := 1189) (by decide) (fun h => absurd h (by decide)) (fun h1169 => ?_)
  refine l_aload C.1 dL_law_1172 0 rfl ?_
  refine l_iconst C.1 dL_law_1174 (v := 0) (by decide) ?_
  obtain ⟨d9, lv9, hlv9, hm9, h, hk9⟩ := qa_isMember 0 h (zq_v6 b hb5 hb1).1 (zq_v6 b hb5 hb1).2
  refine m_callV C (b := bz) (As := [.int 0]) (rest := []) (hm9 (w_B F bz)) (cwV 1 C.1.2.2.2.2 gL_law_X11_isMember rfl rfl rfl (by decide +kernel) ⟨by dsimp only [x_rm, room_1]; omega, by dsimp only [x_rm, room_1]; omega⟩) rfl rfl (Nat.le_of_ble_eq_true rfl) dL_law_1175 ⟨Nat.le_of_ble_eq_true rfl, Nat.le_of_ble_eq_true rfl⟩ ?_
  refine l_if_eq C.1 dL_law_1178 (tgt := 1189) (by decide) (fun h => absurd h (by decide)) (fun h1178 => ?_)
  refine l_aload C.1 dL_law_1181 0 rfl ?_
  obtain ⟨d10, lv10, hlv10, hm10, h, hk10⟩ := qa_isBalanced h rfl
  refine m_callV C (b := bz) (As := []) (rest := []) (hm10 (w_B F bz)) (cwV 0 C.1.2.2.2.2 gL_law_X11_isBalanced rfl rfl rfl (by decide +kernel) ⟨by dsimp only [x_rm, room_1]; omega, by dsimp only [x_rm, room_1]; omega⟩) rfl rfl (Nat.le_of_ble_eq_true rfl) dL_law_1183 ⟨Nat.le_of_ble_eq_true rfl, Nat.le_of_ble_eq_true rfl⟩ ?_
  refine l_if_ne C.1 dL_law_1186 (tgt := 1191) (by decide) (fun h1186 => ?_) (fun h => absurd h (by decide))
  refine l_widen (k := 1410) (n := 8200) (Nat.le_of_ble_eq_true rfl) (Nat.le_of_ble_eq_true rfl) ?_
  exact K _ _ (q_R_up h (by omega))
set_option maxHeartbeats 2000000 in
theorem z_7 (C : Mx F p s m args c cL_law wsL_law RL 9) (hfl : l.stackTraces = false) (hb5 : b < 5) (hb1 : 1 ≤ b) (h : q_R 2600 dz (zt_16 b) hs)
    (K : ∀ (d : xd) (hs : List (Nat → Int32)), q_R 3600 d (zt_20 b) hs → Lb p l e room_1 s m args below meth c 9 1410 8200 Q (w_A s) (m_P F s.heap.size [(bz, d), (bx, dx)]) 1088 [(8, .ref bz), (7, .int (6 * nI b)), (6, .int (nI b)), (5, .int cc), (4, .int now), (3, .int many), (1, .ref bx), (0, .ref sb)] []) : Lb p l e room_1 s m args below meth c 9 1400 8100 Q (w_A s) (m_P F s.heap.size [(bz, dz), (bx, dx)]) 955 [(8, .ref bz), (7, .int (6 * nI b)), (6, .int (nI b)), (5, .int cc), (4, .int now), (3, .int many), (1, .ref bx), (0, .ref sb)] [] := by
  refine l_aload C.1 dL_law_955 0 rfl ?_
  obtain ⟨d11, lv11, hlv11, hm11, h, hk11⟩ := q_A_ok (q_burnNight hfl h (by omega)) (zq_o7 b hb5 hb1)
  refine m_callV C (b := bz) (As := []) (rest := []) (hm11 (w_B F bz)) (cwV 0 C.1.2.2.2.2 gL_law_X11_burnNight rfl rfl rfl (by decide +kernel) ⟨by dsimp only [x_rm, room_1]; omega, by dsimp only [x_rm, room_1]; omega⟩) rfl rfl (Nat.le_of_ble_eq_true rfl) dL_law_957 ⟨Nat.le_of_ble_eq_true rfl, Nat.le_of_ble_eq_true rfl⟩ ?_
  refine l_iconst C.1 dL_law_960 (v := 1) (by decide) ?_
  refine l_icmp_ne C.1 dL_law_961 (tgt := 1086) (by decide) (fun h => absurd rfl h) (fun h961 => ?_)
  refine l_aload C.1 dL_law_964 0 rfl ?_
  refine l_iconst C.1 dL_law_966 (v := 1) (by decide) ?_
  obtain ⟨d12, lv12, hlv12, hm12, h, hk12⟩ := qa_isMember 1 h (zq_u0 b hb5 hb1).1 (zq_u0 b hb5 hb1).2
  refine m_callV C (b := bz) (As := [.int 1]) (rest := []) (hm12 (w_B F bz)) (cwV 1 C.1.2.2.2.2 gL_law_X11_isMember rfl rfl rfl (by decide +kernel) ⟨by dsimp only [x_rm, room_1]; omega, by dsimp only [x_rm, room_1]; omega⟩) rfl rfl (Nat.le_of_ble_eq_true rfl) dL_law_967 ⟨Nat.le_of_ble_eq_true rfl, Nat.le_of_ble_eq_true rfl⟩ ?_
  refine l_if_eq C.1 dL_law_970 (tgt := 1086) (by decide) (fun h => absurd h (by decide)) (fun h970 => ?_)
  refine l_aload C.1 dL_law_973 0 rfl ?_
  refine l_iconst C.1 dL_law_975 (v := 0) (by decide) ?_
  obtain ⟨d13, lv13, hlv13, hm13, h, hk13⟩ := qa_isMember 0 h (zq_u1 b hb5 hb1).1 (zq_u1 b hb5 hb1).2
  refine m_callV C (b := bz) (As := [.int 0]) (rest := []) (hm13 (w_B F bz)) (cwV 1 C.1.2.2.2.2 gL_law_X11_isMember rfl rfl rfl (by decide +kernel) ⟨by dsimp only [x_rm, room_1]; omega, by dsimp only [x_rm, room_1]; omega⟩) rfl rfl (Nat.le_of_ble_eq_true rfl) dL_law_976 ⟨Nat.le_of_ble_eq_true rfl, Nat.le_of_ble_eq_true rfl⟩ ?_
  refine l_if_ne C.1 dL_law_979 (tgt := 1086) (by decide) (fun h => absurd h (by decide)) (fun h979 => ?_)
  refine l_aload C.1 dL_law_982 0 rfl ?_
  refine l_iconst C.1 dL_law_984 (v := 0) (by decide) ?_
  obtain ⟨d14, lv14, hlv14, hm14, h, hk14⟩ := qa_oilOf 0 h (zq_u2 b hb5 hb1).1 (zq_u2 b hb5 hb1).2
  refine m_callV C (b := bz) (As := [.int 0]) (rest := []) (hm14 (w_B F bz)) (cwV 1 C.1.2.2.2.2 gL_law_X11_oilOf rfl rfl rfl (by decide +kernel) ⟨by dsimp only [x_rm, room_1]; omega, by dsimp only [x_rm, room_1]; omega⟩) rfl rfl (Nat.le_of_ble_eq_true rfl) dL_law_985 ⟨Nat.le_of_ble_eq_true rfl, Nat.le_of_ble_eq_true rfl⟩ ?_
  refine l_if_ne C.1 dL_law_988 (tgt := 1086) (by decide) (fun h => absurd h (by decide)) (fun h988 => ?_)
  refine l_aload C.1 dL_law_991 0 rfl ?_
  refine l_iconst C.1 dL_law_993 (v := 0) (by decide) ?_
  obtain ⟨d15, lv15, hlv15, hm15, h, hk15⟩ := qa_canBurn 0 h (zq_u3 b hb5 hb1).1 (zq_u3 b hb5 hb1).2
  refine m_callV C (b := bz) (As := [.int 0]) (rest := []) (hm15 (w_B F bz)) (cwV 1 C.1.2.2.2.2 gL_law_X11_canBurn rfl rfl rfl (by decide +kernel) ⟨by dsimp only [x_rm, room_1]; omega, by dsimp only [x_rm, room_1]; omega⟩) rfl rfl (Nat.le_of_ble_eq_true rfl) dL_law_994 ⟨Nat.le_of_ble_eq_true rfl, Nat.le_of_ble_eq_true rfl⟩ ?_
  refine l_if_ne C.1 dL_law_997 (tgt := 1086) (by decide) (fun h => absurd h (by decide)) (fun h997 => ?_)
  refine l_aload C.1 dL_law_1000 0 rfl ?_
  refine l_iconst C.1 dL_law_1002 (v := 1) (by decide) ?_
  refine l_iconst C.1 dL_law_1003 (v := 0) (by decide) ?_
  obtain ⟨d16, lv16, hlv16, hm16, h, hk16⟩ := q_A_ok (q_moveMoth hfl h (by omega) 1 0) (zq_o8 b hb5 hb1)
  refine m_callV C (b := bz) (As := [.int 1, .int 0]) (rest := []) (hm16 (w_B F bz)) (cwV 2 C.1.2.2.2.2 gL_law_X11_moveMoth rfl rfl rfl (by decide +kernel) ⟨by dsimp only [x_rm, room_1]; omega, by dsimp only [x_rm, room_1]; omega⟩) rfl rfl (Nat.le_of_ble_eq_true rfl) dL_law_1004 ⟨Nat.le_of_ble_eq_true rfl, Nat.le_of_ble_eq_true rfl⟩ ?_
  refine l_iconst C.1 dL_law_1007 (v := 2) (by decide) ?_
  refine l_icmp_ne C.1 dL_law_1008 (tgt := 1086) (by decide) (fun h => absurd rfl h) (fun h1008 => ?_)
  refine l_aload C.1 dL_law_1011 0 rfl ?_
  refine l_iconst C.1 dL_law_1013 (v := 0) (by decide) ?_
  refine l_iconst C.1 dL_law_1014 (v := 0) (by decide) ?_
  obtain ⟨d17, lv17, hlv17, hm17, h, hk17⟩ := q_A_ok (q_moveMoth hfl h (by omega) 0 0) (zq_o9 b hb5 hb1)
  refine m_callV C (b := bz) (As := [.int 0, .int 0]) (rest := []) (hm17 (w_B F bz)) (cwV 2 C.1.2.2.2.2 gL_law_X11_moveMoth rfl rfl rfl (by decide +kernel) ⟨by dsimp only [x_rm, room_1]; omega, by dsimp only [x_rm, room_1]; omega⟩) rfl rfl (Nat.le_of_ble_eq_true rfl) dL_law_1015 ⟨Nat.le_of_ble_eq_true rfl, Nat.le_of_ble_eq_true rfl⟩ ?_
  refine l_iconst C.1 dL_law_1018 (v := (-1)) (by decide) ?_
  refine l_icmp_ne C.1 dL_law_1019 (tgt := 1086) (by decide) (fun h => absurd rfl h) (fun h1019 => ?_)
  refine l_aload C.1 dL_law_1022 0 rfl ?_
  obtain ⟨d18, lv18, hlv18, hm18, h, hk18⟩ := qa_treasury h (zq_u4 b hb5 hb1)
  refine m_callV C (b := bz) (As := []) (rest := []) (hm18 (w_B F bz)) (cwV 0 C.1.2.2.2.2 gL_law_X11_treasury rfl rfl rfl (by decide +kernel) ⟨by dsimp only [x_rm, room_1]; omega, by dsimp only [x_rm, room_1]; omega⟩) rfl rfl (Nat.le_of_ble_eq_true rfl) dL_law_1024 ⟨Nat.le_of_ble_eq_true rfl, Nat.le_of_ble_eq_true rfl⟩ ?_
  refine l_bipush C.1 dL_law_1027 (v := 24) (by decide) ?_
  refine l_icmp_ne C.1 dL_law_1029 (tgt := 1086) (by decide) (fun h => absurd rfl h) (fun h1029 => ?_)
  refine l_aload C.1 dL_law_1032 0 rfl ?_
  refine l_bipush C.1 dL_law_1034 (v := 14) (by decide) ?_
  refine l_iconst C.1 dL_law_1036 (v := 0) (by decide) ?_
  refine l_bipush C.1 dL_law_1037 (v := 6) (by decide) ?_
  obtain ⟨d19, hm19, h, hk19⟩ := q_A_x (c_L_act_14 hfl h (by omega) 0 6) (zq_u5 b hb5 hb1)
  refine m_callH C (As := [.ref bz, .int 14, .int 0, .int 6]) (rest := []) (hm19 (w_B F bz)) (vx_cwSW 4 C.1.2.2.2.2 gL_law_L_act rfl rfl rfl (by decide +kernel) ⟨Nat.le_of_ble_eq_true rfl, Nat.le_of_ble_eq_true rfl⟩) rfl rfl (Nat.le_of_ble_eq_true rfl) dL_law_1039 ⟨Nat.le_of_ble_eq_true rfl, Nat.le_of_ble_eq_true rfl⟩ ?_
  refine l_top (y := -2) (by decide) ?_
  refine l_bipush C.1 dL_law_1042 (v := (-2)) (by decide) ?_
  refine l_icmp_ne C.1 dL_law_1044 (tgt := 1086) (by decide) (fun h => absurd rfl h) (fun h1044 => ?_)
  refine l_aload C.1 dL_law_1047 0 rfl ?_
  refine l_iconst C.1 dL_law_1049 (v := 2) (by decide) ?_
  obtain ⟨d20, lv20, hlv20, hm20, h, hk20⟩ := q_A_ok (q_removeLamp hfl h (by omega) 2) (zq_oa b hb5 hb1)
  refine m_callV C (b := bz) (As := [.int 2]) (rest := []) (hm20 (w_B F bz)) (cwV 1 C.1.2.2.2.2 gL_law_X11_removeLamp rfl rfl rfl (by decide +kernel) ⟨by dsimp only [x_rm, room_1]; omega, by dsimp only [x_rm, room_1]; omega⟩) rfl rfl (Nat.le_of_ble_eq_true rfl) dL_law_1050 ⟨Nat.le_of_ble_eq_true rfl, Nat.le_of_ble_eq_true rfl⟩ ?_
  refine l_iconst C.1 dL_law_1053 (v := 2) (by decide) ?_
  refine l_icmp_ne C.1 dL_law_1054 (tgt := 1086) (by decide) (fun h => absurd rfl h) (fun h1054 => ?_)
  refine l_aload C.1 dL_law_1057 0 rfl ?_
  obtain ⟨d21, lv21, hlv21, hm21, h, hk21⟩ := qa_reserve h (zq_u6 b hb5 hb1)
  refine m_callV C (b := bz) (As := []) (rest := []) (hm21 (w_B F bz)) (cwV 0 C.1.2.2.2.2 gL_law_X11_reserve rfl rfl rfl (by decide +kernel) ⟨by dsimp only [x_rm, room_1]; omega, by dsimp only [x_rm, room_1]; omega⟩) rfl rfl (Nat.le_of_ble_eq_true rfl) dL_law_1059 ⟨Nat.le_of_ble_eq_true rfl, Nat.le_of_ble_eq_true rfl⟩ ?_
  refine l_iload C.1 dL_law_1062 2 rfl ?_
  refine l_icmp_ne C.1 dL_law_1064 (tgt := 1086) (by decide) (fun h => absurd rfl h) (fun h1064 => ?_)
  refine l_aload C.1 dL_law_1067 0 rfl ?_
  obtain ⟨d22, lv22, hlv22, hm22, h, hk22⟩ := qa_treasury h (zq_u7 b hb5 hb1)
  refine m_callV C (b := bz) (As := []) (rest := []) (hm22 (w_B F bz)) (cwV 0 C.1.2.2.2.2 gL_law_X11_treasury rfl rfl rfl (by decide +kernel) ⟨by dsimp only [x_rm, room_1]; omega, by dsimp only [x_rm, room_1]; omega⟩) rfl rfl (Nat.le_of_ble_eq_true rfl) dL_law_1069 ⟨Nat.le_of_ble_eq_true rfl, Nat.le_of_ble_eq_true rfl⟩ ?_
  refine l_bipush C.1 dL_law_1072 (v := 26) (by decide) ?_
  refine l_icmp_ne C.1 dL_law_1074 (tgt := 1086) (by decide) (fun h => absurd rfl h) (fun h1074 => ?_)
  refine l_aload C.1 dL_law_1077 0 rfl ?_
  refine l_iconst C.1 dL_law_1079 (v := 1) (by decide) ?_
  obtain ⟨d23, lv23, hlv23, hm23, h, hk23⟩ := qa_lampOfMoth 1 h (zq_u8 b hb5 hb1).1 (zq_u8 b hb5 hb1).2
  refine m_callV C (b := bz) (As := [.int 1]) (rest := []) (hm23 (w_B F bz)) (cwV 1 C.1.2.2.2.2 gL_law_X11_lampOfMoth rfl rfl rfl (by decide +kernel) ⟨by dsimp only [x_rm, room_1]; omega, by dsimp only [x_rm, room_1]; omega⟩) rfl rfl (Nat.le_of_ble_eq_true rfl) dL_law_1080 ⟨Nat.le_of_ble_eq_true rfl, Nat.le_of_ble_eq_true rfl⟩ ?_
  refine l_if_eq C.1 dL_law_1083 (tgt := 1088) (by decide) (fun h1083 => ?_) (fun h => absurd h (by decide))
  refine l_widen (k := 1410) (n := 8200) (Nat.le_of_ble_eq_true rfl) (Nat.le_of_ble_eq_true rfl) ?_
  exact K _ _ (q_R_up h (by omega))
set_option maxHeartbeats 2000000 in
theorem z_6 (C : Mx F p s m args c cL_law wsL_law RL 9) (hfl : l.stackTraces = false) (hb5 : b < 5) (hb1 : 1 ≤ b) (h : q_R 1500 dz (zt_10 b) hs)
    (K : ∀ (d : xd) (hs : List (Nat → Int32)), q_R 2600 d (zt_16 b) hs → Lb p l e room_1 s m args below meth c 9 1400 8100 Q (w_A s) (m_P F s.heap.size [(bz, d), (bx, dx)]) 955 [(8, .ref bz), (7, .int (6 * nI b)), (6, .int (nI b)), (5, .int cc), (4, .int now), (3, .int many), (1, .ref bx), (0, .ref sb)] []) : Lb p l e room_1 s m args below meth c 9 1400 8100 Q (w_A s) (m_P F s.heap.size [(bz, dz), (bx, dx)]) 784 [(8, .ref bz), (7, .int (6 * nI b)), (6, .int (nI b)), (5, .int cc), (4, .int now), (3, .int many), (1, .ref bx), (0, .ref sb)] [] := by
  refine l_aload C.1 dL_law_784 0 rfl ?_
  refine l_iconst C.1 dL_law_786 (v := 0) (by decide) ?_
  obtain ⟨d24, lv24, hlv24, hm24, h, hk24⟩ := q_A_ok (q_addMoth hfl h (by omega) 0) (zq_m0 b hb5 hb1)
  refine m_callV C (b := bz) (As := [.int 0]) (rest := []) (hm24 (w_B F bz)) (cwV 1 C.1.2.2.2.2 gL_law_X11_addMoth rfl rfl rfl (by decide +kernel) ⟨by dsimp only [x_rm, room_1]; omega, by dsimp only [x_rm, room_1]; omega⟩) rfl rfl (Nat.le_of_ble_eq_true rfl) dL_law_787 ⟨Nat.le_of_ble_eq_true rfl, Nat.le_of_ble_eq_true rfl⟩ ?_
  refine l_if_ne C.1 dL_law_790 (tgt := 953) (by decide) (fun h => absurd h (by decide)) (fun h790 => ?_)
  refine l_aload C.1 dL_law_793 0 rfl ?_
  refine l_iconst C.1 dL_law_795 (v := 1) (by decide) ?_
  obtain ⟨d25, lv25, hlv25, hm25, h, hk25⟩ := q_A_ok (q_addMoth hfl h (by omega) 1) (zq_m1 b hb5 hb1)
  refine m_callV C (b := bz) (As := [.int 1]) (rest := []) (hm25 (w_B F bz)) (cwV 1 C.1.2.2.2.2 gL_law_X11_addMoth rfl rfl rfl (by decide +kernel) ⟨by dsimp only [x_rm, room_1]; omega, by dsimp only [x_rm, room_1]; omega⟩) rfl rfl (Nat.le_of_ble_eq_true rfl) dL_law_796 ⟨Nat.le_of_ble_eq_true rfl, Nat.le_of_ble_eq_true rfl⟩ ?_
  refine l_iconst C.1 dL_law_799 (v := 1) (by decide) ?_
  refine l_icmp_ne C.1 dL_law_800 (tgt := 953) (by decide) (fun h => absurd rfl h) (fun h800 => ?_)
  refine l_aload C.1 dL_law_803 0 rfl ?_
  refine l_iconst C.1 dL_law_805 (v := 2) (by decide) ?_
  obtain ⟨d26, lv26, hlv26, hm26, h, hk26⟩ := q_A_ok (q_addMoth hfl h (by omega) 2) (zq_m2 b hb5 hb1)
  refine m_callV C (b := bz) (As := [.int 2]) (rest := []) (hm26 (w_B F bz)) (cwV 1 C.1.2.2.2.2 gL_law_X11_addMoth rfl rfl rfl (by decide +kernel) ⟨by dsimp only [x_rm, room_1]; omega, by dsimp only [x_rm, room_1]; omega⟩) rfl rfl (Nat.le_of_ble_eq_true rfl) dL_law_806 ⟨Nat.le_of_ble_eq_true rfl, Nat.le_of_ble_eq_true rfl⟩ ?_
  refine l_iconst C.1 dL_law_809 (v := 2) (by decide) ?_
  refine l_icmp_ne C.1 dL_law_810 (tgt := 953) (by decide) (fun h => absurd rfl h) (fun h810 => ?_)
  refine l_aload C.1 dL_law_813 0 rfl ?_
  obtain ⟨d27, lv27, hlv27, hm27, h, hk27⟩ := q_A_ok (q_burnNight hfl h (by omega)) (zq_o4 b hb5 hb1)
  refine m_callV C (b := bz) (As := []) (rest := []) (hm27 (w_B F bz)) (cwV 0 C.1.2.2.2.2 gL_law_X11_burnNight rfl rfl rfl (by decide +kernel) ⟨by dsimp only [x_rm, room_1]; omega, by dsimp only [x_rm, room_1]; omega⟩) rfl rfl (Nat.le_of_ble_eq_true rfl) dL_law_815 ⟨Nat.le_of_ble_eq_true rfl, Nat.le_of_ble_eq_true rfl⟩ ?_
  refine l_iconst C.1 dL_law_818 (v := 2) (by decide) ?_
  refine l_icmp_ne C.1 dL_law_819 (tgt := 953) (by decide) (fun h => absurd rfl h) (fun h819 => ?_)
  refine l_aload C.1 dL_law_822 0 rfl ?_
  obtain ⟨d28, lv28, hlv28, hm28, h, hk28⟩ := qa_treasury h (zq_t0 b hb5 hb1)
  refine m_callV C (b := bz) (As := []) (rest := []) (hm28 (w_B F bz)) (cwV 0 C.1.2.2.2.2 gL_law_X11_treasury rfl rfl rfl (by decide +kernel) ⟨by dsimp only [x_rm, room_1]; omega, by dsimp only [x_rm, room_1]; omega⟩) rfl rfl (Nat.le_of_ble_eq_true rfl) dL_law_824 ⟨Nat.le_of_ble_eq_true rfl, Nat.le_of_ble_eq_true rfl⟩ ?_
  refine l_bipush C.1 dL_law_827 (v := 6) (by decide) ?_
  refine l_icmp_ne C.1 dL_law_829 (tgt := 953) (by decide) (fun h => absurd rfl h) (fun h829 => ?_)
  refine l_aload C.1 dL_law_832 0 rfl ?_
  refine l_iconst C.1 dL_law_834 (v := 0) (by decide) ?_
  obtain ⟨d29, lv29, hlv29, hm29, h, hk29⟩ := qa_oilOf 0 h (zq_t1 b hb5 hb1).1 (zq_t1 b hb5 hb1).2
  refine m_callV C (b := bz) (As := [.int 0]) (rest := []) (hm29 (w_B F bz)) (cwV 1 C.1.2.2.2.2 gL_law_X11_oilOf rfl rfl rfl (by decide +kernel) ⟨by dsimp only [x_rm, room_1]; omega, by dsimp only [x_rm, room_1]; omega⟩) rfl rfl (Nat.le_of_ble_eq_true rfl) dL_law_835 ⟨Nat.le_of_ble_eq_true rfl, Nat.le_of_ble_eq_true rfl⟩ ?_
  refine l_iconst C.1 dL_law_838 (v := 2) (by decide) ?_
  refine l_iload C.1 dL_law_839 2 rfl ?_
  refine l_imul C.1 dL_law_841 ?_
  refine l_icmp_ne C.1 dL_law_842 (tgt := 953) (by decide) (fun h => absurd rfl h) (fun h842 => ?_)
  refine l_aload C.1 dL_law_845 0 rfl ?_
  refine l_iconst C.1 dL_law_847 (v := 1) (by decide) ?_
  obtain ⟨d30, lv30, hlv30, hm30, h, hk30⟩ := qa_wickOf 1 h (zq_t2 b hb5 hb1).1 (zq_t2 b hb5 hb1).2
  refine m_callV C (b := bz) (As := [.int 1]) (rest := []) (hm30 (w_B F bz)) (cwV 1 C.1.2.2.2.2 gL_law_X11_wickOf rfl rfl rfl (by decide +kernel) ⟨by dsimp only [x_rm, room_1]; omega, by dsimp only [x_rm, room_1]; omega⟩) rfl rfl (Nat.le_of_ble_eq_true rfl) dL_law_848 ⟨Nat.le_of_ble_eq_true rfl, Nat.le_of_ble_eq_true rfl⟩ ?_
  refine l_if_ne C.1 dL_law_851 (tgt := 953) (by decide) (fun h => absurd h (by decide)) (fun h851 => ?_)
  refine l_aload C.1 dL_law_854 0 rfl ?_
  refine l_iconst C.1 dL_law_856 (v := 0) (by decide) ?_
  obtain ⟨d31, lv31, hlv31, hm31, h, hk31⟩ := qa_strikesOf 0 h (zq_t3 b hb5 hb1).1 (zq_t3 b hb5 hb1).2
  refine m_callV C (b := bz) (As := [.int 0]) (rest := []) (hm31 (w_B F bz)) (cwV 1 C.1.2.2.2.2 gL_law_X11_strikesOf rfl rfl rfl (by decide +kernel) ⟨by dsimp only [x_rm, room_1]; omega, by dsimp only [x_rm, room_1]; omega⟩) rfl rfl (Nat.le_of_ble_eq_true rfl) dL_law_857 ⟨Nat.le_of_ble_eq_true rfl, Nat.le_of_ble_eq_true rfl⟩ ?_
  refine l_iconst C.1 dL_law_860 (v := 1) (by decide) ?_
  refine l_icmp_ne C.1 dL_law_861 (tgt := 953) (by decide) (fun h => absurd rfl h) (fun h861 => ?_)
  refine l_aload C.1 dL_law_864 0 rfl ?_
  refine l_iconst C.1 dL_law_866 (v := 0) (by decide) ?_
  obtain ⟨d32, lv32, hlv32, hm32, h, hk32⟩ := qa_probationOf 0 h (zq_t4 b hb5 hb1).1 (zq_t4 b hb5 hb1).2
  refine m_callV C (b := bz) (As := [.int 0]) (rest := []) (hm32 (w_B F bz)) (cwV 1 C.1.2.2.2.2 gL_law_X11_probationOf rfl rfl rfl (by decide +kernel) ⟨by dsimp only [x_rm, room_1]; omega, by dsimp only [x_rm, room_1]; omega⟩) rfl rfl (Nat.le_of_ble_eq_true rfl) dL_law_867 ⟨Nat.le_of_ble_eq_true rfl, Nat.le_of_ble_eq_true rfl⟩ ?_
  refine l_iconst C.1 dL_law_870 (v := 3) (by decide) ?_
  refine l_icmp_ne C.1 dL_law_871 (tgt := 953) (by decide) (fun h => absurd rfl h) (fun h871 => ?_)
  refine l_aload C.1 dL_law_874 0 rfl ?_
  refine l_iconst C.1 dL_law_876 (v := 2) (by decide) ?_
  obtain ⟨d33, lv33, hlv33, hm33, h, hk33⟩ := qa_probationOf 2 h (zq_t5 b hb5 hb1).1 (zq_t5 b hb5 hb1).2
  refine m_callV C (b := bz) (As := [.int 2]) (rest := []) (hm33 (w_B F bz)) (cwV 1 C.1.2.2.2.2 gL_law_X11_probationOf rfl rfl rfl (by decide +kernel) ⟨by dsimp only [x_rm, room_1]; omega, by dsimp only [x_rm, room_1]; omega⟩) rfl rfl (Nat.le_of_ble_eq_true rfl) dL_law_877 ⟨Nat.le_of_ble_eq_true rfl, Nat.le_of_ble_eq_true rfl⟩ ?_
  refine l_iconst C.1 dL_law_880 (v := 2) (by decide) ?_
  refine l_icmp_ne C.1 dL_law_881 (tgt := 953) (by decide) (fun h => absurd rfl h) (fun h881 => ?_)
  refine l_aload C.1 dL_law_884 0 rfl ?_
  refine l_iconst C.1 dL_law_886 (v := 1) (by decide) ?_
  refine l_iconst C.1 dL_law_887 (v := (-1)) (by decide) ?_
  obtain ⟨d34, lv34, hlv34, hm34, h, hk34⟩ := q_A_ok (q_moveMoth hfl h (by omega) 1 (-1)) (zq_o5 b hb5 hb1)
  refine m_callV C (b := bz) (As := [.int 1, .int (-1)]) (rest := []) (hm34 (w_B F bz)) (cwV 2 C.1.2.2.2.2 gL_law_X11_moveMoth rfl rfl rfl (by decide +kernel) ⟨by dsimp only [x_rm, room_1]; omega, by dsimp only [x_rm, room_1]; omega⟩) rfl rfl (Nat.le_of_ble_eq_true rfl) dL_law_888 ⟨Nat.le_of_ble_eq_true rfl, Nat.le_of_ble_eq_true rfl⟩ ?_
  refine l_iconst C.1 dL_law_891 (v := 1) (by decide) ?_
  refine l_icmp_ne C.1 dL_law_892 (tgt := 953) (by decide) (fun h => absurd rfl h) (fun h892 => ?_)
  refine l_aload C.1 dL_law_895 0 rfl ?_
  obtain ⟨d35, lv35, hlv35, hm35, h, hk35⟩ := q_A_ok (q_burnNight hfl h (by omega)) (zq_o6 b hb5 hb1)
  refine m_callV C (b := bz) (As := []) (rest := []) (hm35 (w_B F bz)) (cwV 0 C.1.2.2.2.2 gL_law_X11_burnNight rfl rfl rfl (by decide +kernel) ⟨by dsimp only [x_rm, room_1]; omega, by dsimp only [x_rm, room_1]; omega⟩) rfl rfl (Nat.le_of_ble_eq_true rfl) dL_law_897 ⟨Nat.le_of_ble_eq_true rfl, Nat.le_of_ble_eq_true rfl⟩ ?_
  refine l_iconst C.1 dL_law_900 (v := 1) (by decide) ?_
  refine l_icmp_ne C.1 dL_law_901 (tgt := 953) (by decide) (fun h => absurd rfl h) (fun h901 => ?_)
  refine l_aload C.1 dL_law_904 0 rfl ?_
  obtain ⟨d36, lv36, hlv36, hm36, h, hk36⟩ := qa_treasury h (zq_t6 b hb5 hb1)
  refine m_callV C (b := bz) (As := []) (rest := []) (hm36 (w_B F bz)) (cwV 0 C.1.2.2.2.2 gL_law_X11_treasury rfl rfl rfl (by decide +kernel) ⟨by dsimp only [x_rm, room_1]; omega, by dsimp only [x_rm, room_1]; omega⟩) rfl rfl (Nat.le_of_ble_eq_true rfl) dL_law_906 ⟨Nat.le_of_ble_eq_true rfl, Nat.le_of_ble_eq_true rfl⟩ ?_
  refine l_bipush C.1 dL_law_909 (v := 15) (by decide) ?_
  refine l_icmp_ne C.1 dL_law_911 (tgt := 953) (by decide) (fun h => absurd rfl h) (fun h911 => ?_)
  refine l_aload C.1 dL_law_914 0 rfl ?_
  obtain ⟨d37, lv37, hlv37, hm37, h, hk37⟩ := qa_mothCount h (zq_t7 b hb5 hb1)
  refine m_callV C (b := bz) (As := []) (rest := []) (hm37 (w_B F bz)) (cwV 0 C.1.2.2.2.2 gL_law_X11_mothCount rfl rfl rfl (by decide +kernel) ⟨by dsimp only [x_rm, room_1]; omega, by dsimp only [x_rm, room_1]; omega⟩) rfl rfl (Nat.le_of_ble_eq_true rfl) dL_law_916 ⟨Nat.le_of_ble_eq_true rfl, Nat.le_of_ble_eq_true rfl⟩ ?_
  refine l_iconst C.1 dL_law_919 (v := 2) (by decide) ?_
  refine l_icmp_ne C.1 dL_law_920 (tgt := 953) (by decide) (fun h => absurd rfl h) (fun h920 => ?_)
  refine l_aload C.1 dL_law_923 0 rfl ?_
  refine l_iconst C.1 dL_law_925 (v := 0) (by decide) ?_
  obtain ⟨d38, lv38, hlv38, hm38, h, hk38⟩ := qa_strikesOf 0 h (zq_t8 b hb5 hb1).1 (zq_t8 b hb5 hb1).2
  refine m_callV C (b := bz) (As := [.int 0]) (rest := []) (hm38 (w_B F bz)) (cwV 1 C.1.2.2.2.2 gL_law_X11_strikesOf rfl rfl rfl (by decide +kernel) ⟨by dsimp only [x_rm, room_1]; omega, by dsimp only [x_rm, room_1]; omega⟩) rfl rfl (Nat.le_of_ble_eq_true rfl) dL_law_926 ⟨Nat.le_of_ble_eq_true rfl, Nat.le_of_ble_eq_true rfl⟩ ?_
  refine l_iconst C.1 dL_law_929 (v := 1) (by decide) ?_
  refine l_icmp_ne C.1 dL_law_930 (tgt := 953) (by decide) (fun h => absurd rfl h) (fun h930 => ?_)
  refine l_aload C.1 dL_law_933 0 rfl ?_
  refine l_iconst C.1 dL_law_935 (v := 0) (by decide) ?_
  obtain ⟨d39, lv39, hlv39, hm39, h, hk39⟩ := qa_probationOf 0 h (zq_t9 b hb5 hb1).1 (zq_t9 b hb5 hb1).2
  refine m_callV C (b := bz) (As := [.int 0]) (rest := []) (hm39 (w_B F bz)) (cwV 1 C.1.2.2.2.2 gL_law_X11_probationOf rfl rfl rfl (by decide +kernel) ⟨by dsimp only [x_rm, room_1]; omega, by dsimp only [x_rm, room_1]; omega⟩) rfl rfl (Nat.le_of_ble_eq_true rfl) dL_law_936 ⟨Nat.le_of_ble_eq_true rfl, Nat.le_of_ble_eq_true rfl⟩ ?_
  refine l_iconst C.1 dL_law_939 (v := 2) (by decide) ?_
  refine l_icmp_ne C.1 dL_law_940 (tgt := 953) (by decide) (fun h => absurd rfl h) (fun h940 => ?_)
  refine l_aload C.1 dL_law_943 0 rfl ?_
  refine l_iconst C.1 dL_law_945 (v := 1) (by decide) ?_
  obtain ⟨d40, lv40, hlv40, hm40, h, hk40⟩ := qa_probationOf 1 h (zq_ta b hb5 hb1).1 (zq_ta b hb5 hb1).2
  refine m_callV C (b := bz) (As := [.int 1]) (rest := []) (hm40 (w_B F bz)) (cwV 1 C.1.2.2.2.2 gL_law_X11_probationOf rfl rfl rfl (by decide +kernel) ⟨by dsimp only [x_rm, room_1]; omega, by dsimp only [x_rm, room_1]; omega⟩) rfl rfl (Nat.le_of_ble_eq_true rfl) dL_law_946 ⟨Nat.le_of_ble_eq_true rfl, Nat.le_of_ble_eq_true rfl⟩ ?_
  refine l_iconst C.1 dL_law_949 (v := 1) (by decide) ?_
  refine l_icmp_eq C.1 dL_law_950 (tgt := 955) (by decide) (fun h950 => ?_) (fun h => absurd rfl h)
  refine l_widen (k := 1400) (n := 8100) (Nat.le_of_ble_eq_true rfl) (Nat.le_of_ble_eq_true rfl) ?_
  exact K _ _ (q_R_up h (by omega))
set_option maxHeartbeats 2000000 in
theorem z_5c (C : Mx F p s m args c cL_law wsL_law RL 9) (hfl : l.stackTraces = false) (hb5 : b < 5) (hb1 : 1 ≤ b) (h : q_R 1400 dz (zt_10 b) hs) {v : Int32} (hv : v = (if nI b ≤ 1 then 1 else nI b))
    (K : ∀ (d : xd) (hs : List (Nat → Int32)), q_R 1500 d (zt_10 b) hs → Lb p l e room_1 s m args below meth c 9 1400 8100 Q (w_A s) (m_P F s.heap.size [(bz, d), (bx, dx)]) 784 [(8, .ref bz), (7, .int (6 * nI b)), (6, .int (nI b)), (5, .int cc), (4, .int now), (3, .int many), (1, .ref bx), (0, .ref sb)] []) : Lb p l e room_1 s m args below meth c 9 1400 8100 Q (w_A s) (m_P F s.heap.size [(bz, dz), (bx, dx)]) 779 [(8, .ref bz), (7, .int (6 * nI b)), (6, .int (nI b)), (5, .int cc), (4, .int now), (3, .int many), (1, .ref bx), (0, .ref sb)] [.int v, .int (if nI b ≤ 1 then 1 else nI b)] := by
  subst hv
  refine l_icmp_eq C.1 dL_law_779 (tgt := 784) (by decide) (fun h779 => ?_) (fun h => absurd rfl h)
  exact K _ _ (q_R_up h (by omega))
set_option maxHeartbeats 2000000 in
theorem z_5b (C : Mx F p s m args c cL_law wsL_law RL 9) (hfl : l.stackTraces = false) (hb5 : b < 5) (hb1 : 1 ≤ b) (h : q_R 1400 dz (zt_10 b) hs) {v : Int32} (hv : v = (if nI b ≤ 1 then 1 else 2))
    (K : ∀ (d : xd) (hs : List (Nat → Int32)), q_R 1500 d (zt_10 b) hs → Lb p l e room_1 s m args below meth c 9 1400 8100 Q (w_A s) (m_P F s.heap.size [(bz, d), (bx, dx)]) 784 [(8, .ref bz), (7, .int (6 * nI b)), (6, .int (nI b)), (5, .int cc), (4, .int now), (3, .int many), (1, .ref bx), (0, .ref sb)] []) : Lb p l e room_1 s m args below meth c 9 1400 8100 Q (w_A s) (m_P F s.heap.size [(bz, dz), (bx, dx)]) 747 [(8, .ref bz), (7, .int (6 * nI b)), (6, .int (nI b)), (5, .int cc), (4, .int now), (3, .int many), (1, .ref bx), (0, .ref sb)] [.int v, .int (if nI b ≤ 1 then 1 else 2)] := by
  subst hv
  refine l_icmp_ne C.1 dL_law_747 (tgt := 782) (by decide) (fun h => absurd rfl h) (fun h747 => ?_)
  refine l_aload C.1 dL_law_750 0 rfl ?_
  refine l_iload C.1 dL_law_752 2 rfl ?_
  obtain ⟨d41, lv41, hlv41, hm41, h, hk41⟩ := qa_votesFor h (zq_s8 b hb5 hb1).1 (zq_s8 b hb5 hb1).2
  refine m_callV C (b := bz) (As := [.int (nI b)]) (rest := []) (hm41 (w_B F bz)) (cwV 1 C.1.2.2.2.2 gL_law_X11_votesFor rfl rfl rfl (by decide +kernel) ⟨by dsimp only [x_rm, room_1]; omega, by dsimp only [x_rm, room_1]; omega⟩) rfl rfl (Nat.le_of_ble_eq_true rfl) dL_law_754 ⟨Nat.le_of_ble_eq_true rfl, Nat.le_of_ble_eq_true rfl⟩ ?_
  refine l_bipush C.1 dL_law_757 (v := 6) (by decide) ?_
  refine l_icmp_ne C.1 dL_law_759 (tgt := 782) (by decide) (fun h => absurd rfl h) (fun h759 => ?_)
  refine l_aload C.1 dL_law_762 0 rfl ?_
  obtain ⟨d42, lv42, hlv42, hm42, h, hk42⟩ := qa_lowestCap (b - 1) h (zq_s9 b hb5 hb1).1.1 (zq_s9 b hb5 hb1).1.2 (zq_s9 b hb5 hb1).2.1 (zq_s9 b hb5 hb1).2.2.1 (zq_s9 b hb5 hb1).2.2.2
  refine m_callV C (b := bz) (As := []) (rest := []) (hm42 (w_B F bz)) (cwV 0 C.1.2.2.2.2 gL_law_X11_lowestCap rfl rfl rfl (by decide +kernel) ⟨by dsimp only [x_rm, room_1]; omega, by dsimp only [x_rm, room_1]; omega⟩) rfl rfl (Nat.le_of_ble_eq_true rfl) dL_law_764 ⟨Nat.le_of_ble_eq_true rfl, Nat.le_of_ble_eq_true rfl⟩ ?_
  refine l_iload C.1 dL_law_767 2 rfl ?_
  refine l_iconst C.1 dL_law_769 (v := 1) (by decide) ?_
  refine l_icmp_le C.1 dL_law_770 (tgt := 778) (by decide) (fun h770 => ?_) (fun h770 => ?_)
  · skip
    refine l_iconst C.1 dL_law_778 (v := 1) (by decide) ?_
    exact z_5c C hfl hb5 hb1 (q_R_up h (by omega)) (if_pos h770).symm K
  · skip
    refine l_iload C.1 dL_law_773 2 rfl ?_
    refine l_goto C.1 dL_law_775 (tgt := 779) (by decide) ?_
    exact z_5c C hfl hb5 hb1 (q_R_up h (by omega)) (if_neg h770).symm K
set_option maxHeartbeats 2000000 in
theorem z_5a (C : Mx F p s m args c cL_law wsL_law RL 9) (hfl : l.stackTraces = false) (hb5 : b < 5) (hb1 : 1 ≤ b) (h : q_R 1000 dz (zt_8 b) hs) 
    (K : ∀ (d : xd) (hs : List (Nat → Int32)), q_R 1500 d (zt_10 b) hs → Lb p l e room_1 s m args below meth c 9 1400 8100 Q (w_A s) (m_P F s.heap.size [(bz, d), (bx, dx)]) 784 [(8, .ref bz), (7, .int (6 * nI b)), (6, .int (nI b)), (5, .int cc), (4, .int now), (3, .int many), (1, .ref bx), (0, .ref sb)] []) : Lb p l e room_1 s m args below meth c 9 1400 8100 Q (w_A s) (m_P F s.heap.size [(bz, dz), (bx, dx)]) 621 [(8, .ref bz), (7, .int (6 * nI b)), (6, .int (nI b)), (5, .int cc), (4, .int now), (3, .int many), (1, .ref bx), (0, .ref sb)] [] := by
  refine l_aload C.1 dL_law_621 0 rfl ?_
  refine l_iload C.1 dL_law_623 1 rfl ?_
  obtain ⟨d43, lv43, hlv43, hm43, h, hk43⟩ := q_A_ok (q_deliverOil hfl h (by omega) (6 * nI b)) (zq_o2 b hb5 hb1)
  refine m_callV C (b := bz) (As := [.int (6 * nI b)]) (rest := []) (hm43 (w_B F bz)) (cwV 1 C.1.2.2.2.2 gL_law_X11_deliverOil rfl rfl rfl (by decide +kernel) ⟨by dsimp only [x_rm, room_1]; omega, by dsimp only [x_rm, room_1]; omega⟩) rfl rfl (Nat.le_of_ble_eq_true rfl) dL_law_625 ⟨Nat.le_of_ble_eq_true rfl, Nat.le_of_ble_eq_true rfl⟩ ?_
  refine l_iload C.1 dL_law_628 1 rfl ?_
  refine l_icmp_ne C.1 dL_law_630 (tgt := 782) (by decide) (fun h => absurd rfl h) (fun h630 => ?_)
  refine l_aload C.1 dL_law_633 0 rfl ?_
  refine l_iconst C.1 dL_law_635 (v := 0) (by decide) ?_
  obtain ⟨d44, lv44, hlv44, hm44, h, hk44⟩ := qa_oilOf 0 h (zq_s0 b hb5 hb1).1 (zq_s0 b hb5 hb1).2
  refine m_callV C (b := bz) (As := [.int 0]) (rest := []) (hm44 (w_B F bz)) (cwV 1 C.1.2.2.2.2 gL_law_X11_oilOf rfl rfl rfl (by decide +kernel) ⟨by dsimp only [x_rm, room_1]; omega, by dsimp only [x_rm, room_1]; omega⟩) rfl rfl (Nat.le_of_ble_eq_true rfl) dL_law_636 ⟨Nat.le_of_ble_eq_true rfl, Nat.le_of_ble_eq_true rfl⟩ ?_
  refine l_iconst C.1 dL_law_639 (v := 3) (by decide) ?_
  refine l_iload C.1 dL_law_640 2 rfl ?_
  refine l_imul C.1 dL_law_642 ?_
  refine l_icmp_ne C.1 dL_law_643 (tgt := 782) (by decide) (fun h => absurd rfl h) (fun h643 => ?_)
  refine l_aload C.1 dL_law_646 0 rfl ?_
  refine l_iconst C.1 dL_law_648 (v := 1) (by decide) ?_
  obtain ⟨d45, lv45, hlv45, hm45, h, hk45⟩ := qa_oilOf 1 h (zq_s1 b hb5 hb1).1 (zq_s1 b hb5 hb1).2
  refine m_callV C (b := bz) (As := [.int 1]) (rest := []) (hm45 (w_B F bz)) (cwV 1 C.1.2.2.2.2 gL_law_X11_oilOf rfl rfl rfl (by decide +kernel) ⟨by dsimp only [x_rm, room_1]; omega, by dsimp only [x_rm, room_1]; omega⟩) rfl rfl (Nat.le_of_ble_eq_true rfl) dL_law_649 ⟨Nat.le_of_ble_eq_true rfl, Nat.le_of_ble_eq_true rfl⟩ ?_
  refine l_iconst C.1 dL_law_652 (v := 2) (by decide) ?_
  refine l_iload C.1 dL_law_653 2 rfl ?_
  refine l_imul C.1 dL_law_655 ?_
  refine l_icmp_ne C.1 dL_law_656 (tgt := 782) (by decide) (fun h => absurd rfl h) (fun h656 => ?_)
  refine l_aload C.1 dL_law_659 0 rfl ?_
  refine l_iconst C.1 dL_law_661 (v := 0) (by decide) ?_
  refine l_iload C.1 dL_law_662 2 rfl ?_
  obtain ⟨d46, lv46, hlv46, hm46, h, hk46⟩ := q_A_ok (q_setBrightness hfl h (by omega) 0 (nI b)) (zq_o3 b hb5 hb1)
  refine m_callV C (b := bz) (As := [.int 0, .int (nI b)]) (rest := []) (hm46 (w_B F bz)) (cwV 2 C.1.2.2.2.2 gL_law_X11_setBrightness rfl rfl rfl (by decide +kernel) ⟨by dsimp only [x_rm, room_1]; omega, by dsimp only [x_rm, room_1]; omega⟩) rfl rfl (Nat.le_of_ble_eq_true rfl) dL_law_664 ⟨Nat.le_of_ble_eq_true rfl, Nat.le_of_ble_eq_true rfl⟩ ?_
  refine l_iconst C.1 dL_law_667 (v := 1) (by decide) ?_
  refine l_icmp_ne C.1 dL_law_668 (tgt := 782) (by decide) (fun h => absurd rfl h) (fun h668 => ?_)
  refine l_aload C.1 dL_law_671 0 rfl ?_
  refine l_iconst C.1 dL_law_673 (v := 0) (by decide) ?_
  obtain ⟨d47, lv47, hlv47, hm47, h, hk47⟩ := qa_nightsOf 0 h (zq_s2 b hb5 hb1).1 (zq_s2 b hb5 hb1).2
  refine m_callV C (b := bz) (As := [.int 0]) (rest := []) (hm47 (w_B F bz)) (cwV 1 C.1.2.2.2.2 gL_law_X11_nightsOf rfl rfl rfl (by decide +kernel) ⟨by dsimp only [x_rm, room_1]; omega, by dsimp only [x_rm, room_1]; omega⟩) rfl rfl (Nat.le_of_ble_eq_true rfl) dL_law_674 ⟨Nat.le_of_ble_eq_true rfl, Nat.le_of_ble_eq_true rfl⟩ ?_
  refine l_iconst C.1 dL_law_677 (v := 3) (by decide) ?_
  refine l_icmp_ne C.1 dL_law_678 (tgt := 782) (by decide) (fun h => absurd rfl h) (fun h678 => ?_)
  refine l_aload C.1 dL_law_681 0 rfl ?_
  refine l_iconst C.1 dL_law_683 (v := 0) (by decide) ?_
  obtain ⟨d48, lv48, hlv48, hm48, h, hk48⟩ := qa_nightsBySimulation 0 h (zq_s2 b hb5 hb1).1 (zq_s2 b hb5 hb1).2
  refine m_callV C (b := bz) (As := [.int 0]) (rest := []) (hm48 (w_B F bz)) (cwV 1 C.1.2.2.2.2 gL_law_X11_nightsBySimulation rfl rfl rfl (by decide +kernel) ⟨by dsimp only [x_rm, room_1]; omega, by dsimp only [x_rm, room_1]; omega⟩) rfl rfl (Nat.le_of_ble_eq_true rfl) dL_law_684 ⟨Nat.le_of_ble_eq_true rfl, Nat.le_of_ble_eq_true rfl⟩ ?_
  refine l_iconst C.1 dL_law_687 (v := 3) (by decide) ?_
  refine l_icmp_ne C.1 dL_law_688 (tgt := 782) (by decide) (fun h => absurd rfl h) (fun h688 => ?_)
  refine l_aload C.1 dL_law_691 0 rfl ?_
  refine l_iconst C.1 dL_law_693 (v := 1) (by decide) ?_
  obtain ⟨d49, lv49, hlv49, hm49, h, hk49⟩ := qa_nightsOf 1 h (zq_s3 b hb5 hb1).1 (zq_s3 b hb5 hb1).2
  refine m_callV C (b := bz) (As := [.int 1]) (rest := []) (hm49 (w_B F bz)) (cwV 1 C.1.2.2.2.2 gL_law_X11_nightsOf rfl rfl rfl (by decide +kernel) ⟨by dsimp only [x_rm, room_1]; omega, by dsimp only [x_rm, room_1]; omega⟩) rfl rfl (Nat.le_of_ble_eq_true rfl) dL_law_694 ⟨Nat.le_of_ble_eq_true rfl, Nat.le_of_ble_eq_true rfl⟩ ?_
  refine l_iconst C.1 dL_law_697 (v := 1) (by decide) ?_
  refine l_icmp_ne C.1 dL_law_698 (tgt := 782) (by decide) (fun h => absurd rfl h) (fun h698 => ?_)
  refine l_aload C.1 dL_law_701 0 rfl ?_
  refine l_iconst C.1 dL_law_703 (v := 0) (by decide) ?_
  obtain ⟨d50, lv50, hlv50, hm50, h, hk50⟩ := qa_longestLamp 0 0 h (zq_s4 b hb5 hb1).1 (zq_s4 b hb5 hb1).1 (zq_s4 b hb5 hb1).2 (fun j hj => absurd hj (Nat.not_lt_zero j)) rfl
  refine m_callV C (b := bz) (As := [.int 0]) (rest := []) (hm50 (w_B F bz)) (cwV 1 C.1.2.2.2.2 gL_law_X11_longestLamp rfl rfl rfl (by decide +kernel) ⟨by dsimp only [x_rm, room_1]; omega, by dsimp only [x_rm, room_1]; omega⟩) rfl rfl (Nat.le_of_ble_eq_true rfl) dL_law_704 ⟨Nat.le_of_ble_eq_true rfl, Nat.le_of_ble_eq_true rfl⟩ ?_
  refine l_if_ne C.1 dL_law_707 (tgt := 782) (by decide) (fun h => absurd h (by decide)) (fun h707 => ?_)
  refine l_aload C.1 dL_law_710 0 rfl ?_
  refine l_iconst C.1 dL_law_712 (v := 2) (by decide) ?_
  obtain ⟨d51, lv51, hlv51, hm51, h, hk51⟩ := qa_glowOf (x := 2) h (by decide) (zq_s5 b hb5 hb1)
  refine m_callV C (b := bz) (As := [.int 2]) (rest := []) (hm51 (w_B F bz)) (cwV 1 C.1.2.2.2.2 gL_law_X11_glowOf rfl rfl rfl (by decide +kernel) ⟨by dsimp only [x_rm, room_1]; omega, by dsimp only [x_rm, room_1]; omega⟩) rfl rfl (Nat.le_of_ble_eq_true rfl) dL_law_713 ⟨Nat.le_of_ble_eq_true rfl, Nat.le_of_ble_eq_true rfl⟩ ?_
  refine l_iload C.1 dL_law_716 2 rfl ?_
  refine l_icmp_ne C.1 dL_law_718 (tgt := 782) (by decide) (fun h => absurd rfl h) (fun h718 => ?_)
  refine l_aload C.1 dL_law_721 0 rfl ?_
  refine l_iconst C.1 dL_law_723 (v := 1) (by decide) ?_
  obtain ⟨d52, lv52, hlv52, hm52, h, hk52⟩ := qa_glowOf (x := 1) h (by decide) (zq_s6 b hb5 hb1)
  refine m_callV C (b := bz) (As := [.int 1]) (rest := []) (hm52 (w_B F bz)) (cwV 1 C.1.2.2.2.2 gL_law_X11_glowOf rfl rfl rfl (by decide +kernel) ⟨by dsimp only [x_rm, room_1]; omega, by dsimp only [x_rm, room_1]; omega⟩) rfl rfl (Nat.le_of_ble_eq_true rfl) dL_law_724 ⟨Nat.le_of_ble_eq_true rfl, Nat.le_of_ble_eq_true rfl⟩ ?_
  refine l_iconst C.1 dL_law_727 (v := 1) (by decide) ?_
  refine l_icmp_ne C.1 dL_law_728 (tgt := 782) (by decide) (fun h => absurd rfl h) (fun h728 => ?_)
  refine l_aload C.1 dL_law_731 0 rfl ?_
  obtain ⟨d53, lv53, hlv53, hm53, h, hk53⟩ := qa_brightestStreet h (zq_s7 b hb5 hb1)
  refine m_callV C (b := bz) (As := []) (rest := []) (hm53 (w_B F bz)) (cwV 0 C.1.2.2.2.2 gL_law_X11_brightestStreet rfl rfl rfl (by decide +kernel) ⟨by dsimp only [x_rm, room_1]; omega, by dsimp only [x_rm, room_1]; omega⟩) rfl rfl (Nat.le_of_ble_eq_true rfl) dL_law_733 ⟨Nat.le_of_ble_eq_true rfl, Nat.le_of_ble_eq_true rfl⟩ ?_
  refine l_iload C.1 dL_law_736 2 rfl ?_
  refine l_iconst C.1 dL_law_738 (v := 1) (by decide) ?_
  refine l_icmp_le C.1 dL_law_739 (tgt := 746) (by decide) (fun h739 => ?_) (fun h739 => ?_)
  · skip
    refine l_iconst C.1 dL_law_746 (v := 1) (by decide) ?_
    exact z_5b C hfl hb5 hb1 (q_R_up h (by omega)) (if_pos h739).symm K
  · skip
    refine l_iconst C.1 dL_law_742 (v := 2) (by decide) ?_
    refine l_goto C.1 dL_law_743 (tgt := 747) (by decide) ?_
    exact z_5b C hfl hb5 hb1 (q_R_up h (by omega)) (if_neg h739).symm K
theorem zx_st {l : Launch} {b : Nat} (hb5 : b < 5) (hb1 : 1 ≤ b) : ∀ i, i < 5 + 1 → ∃ o : q_O, q_cmd l (tp_vb (tw 26) (x_wL 26) (tp_P (tw 26) (x_wL 26) i)) (tp_v1 (tw 26) (x_wL 26) (tp_P (tw 26) (x_wL 26) i)) (tp_v2 (tw 26) (x_wL 26) (tp_P (tw 26) (x_wL 26) i)) (zx (zt_1 b) i) o ∧ o.1 = none ∧ o.2.2 = zx (zt_1 b) (i + 1) := by
  intro i hi
  obtain ⟨⟨e0, e1, e2⟩, e3, e4, e5⟩ := zq_x0 b hb5 hb1
  rcases (show i = 0 ∨ i = 1 ∨ i = 2 ∨ i = 3 ∨ i = 4 ∨ i = 5 by omega) with rfl | rfl | rfl | rfl | rfl | rfl
  · rw [tx_26c0.1, tx_26c0.2.1, tx_26c0.2.2, (show zx (zt_1 b) 0 = (zt_1 b) from rfl), (show zx (zt_1 b) (0 + 1) = zx_1 (zt_1 b) from rfl)]
    exact ⟨o_addLamp (zt_1 b) (nI 2) (nI 3), q_k0 (by decide) (by decide), e0, by delta zx_1; rfl⟩
  · rw [tx_26c1.1, tx_26c1.2.1, tx_26c1.2.2, (show zx (zt_1 b) 1 = (zx_1 (zt_1 b)) from rfl), (show zx (zt_1 b) (1 + 1) = zx_2 (zt_1 b) from rfl)]
    exact ⟨o_addLamp (zx_1 (zt_1 b)) (nI 1) (nI 2), q_k0 (by decide) (by decide), e1, by delta zx_2; rfl⟩
  · rw [tx_26c2.1, tx_26c2.2.1, tx_26c2.2.2, (show zx (zt_1 b) 2 = (zx_2 (zt_1 b)) from rfl), (show zx (zt_1 b) (2 + 1) = zx_3 (zt_1 b) from rfl)]
    exact ⟨o_addLamp (zx_2 (zt_1 b)) (nI 2) (nI 1), q_k0 (by decide) (by decide), e2, by delta zx_3; rfl⟩
  · rw [tx_26c3.1, tx_26c3.2.1, tx_26c3.2.2, (show zx (zt_1 b) 3 = (zx_3 (zt_1 b)) from rfl), (show zx (zt_1 b) (3 + 1) = zx_4 (zt_1 b) from rfl)]
    exact ⟨o_donateWicks (zx_3 (zt_1 b)) (nI 20), q_k3 (by decide) (by decide), e3, by delta zx_4; rfl⟩
  · rw [tx_26c4.1, tx_26c4.2.1, tx_26c4.2.2, (show zx (zt_1 b) 4 = (zx_4 (zt_1 b)) from rfl), (show zx (zt_1 b) (4 + 1) = zx_5 (zt_1 b) from rfl)]
    exact ⟨o_giveWick (zx_4 (zt_1 b)) (nI 0) (nI 4), q_k4 (by decide) (by decide), e4, by delta zx_5; rfl⟩
  · rw [tx_26c5.1, tx_26c5.2.1, tx_26c5.2.2, (show zx (zt_1 b) 5 = (zx_5 (zt_1 b)) from rfl), (show zx (zt_1 b) (5 + 1) = zx_6 (zt_1 b) from rfl)]
    exact ⟨o_giveWick (zx_5 (zt_1 b)) (nI 1) (nI 1), q_k4 (by decide) (by decide), e5, by delta zx_6; rfl⟩
set_option maxHeartbeats 2000000 in
theorem z_4 (C : Mx F p s m args c cL_law wsL_law RL 9) (hfl : l.stackTraces = false) (hb5 : b < 5) (hb1 : 1 ≤ b) (h : q_R 600 dz (zt_1 b) hs) (hb : dz 168 1 = 0) (hZ : ∀ q ∈ x_lt, vk_R "LampCooperativeLaw" q.1 q.2.1 (F.2.2 2 q.2.2) s)
    (K : ∀ (d : xd) (hs : List (Nat → Int32)), q_R 1000 d (zt_8 b) hs → Lb p l e room_1 s m args below meth c 9 1400 8100 Q (w_A s) (m_P F s.heap.size [(bz, d), (bx, dx)]) 621 [(8, .ref bz), (7, .int (6 * nI b)), (6, .int (nI b)), (5, .int cc), (4, .int now), (3, .int many), (1, .ref bx), (0, .ref sb)] []) : Lb p l e room_1 s m args below meth c 9 1300 8000 Q (w_A s) (m_P F s.heap.size [(bz, dz), (bx, dx)]) 461 [(8, .ref bz), (7, .int (6 * nI b)), (6, .int (nI b)), (5, .int cc), (4, .int now), (3, .int many), (1, .ref bx), (0, .ref sb)] [] := by
  refine l_aload C.1 dL_law_461 0 rfl ?_
  refine l_ldc C.1 (a := F.2.2 2 26) (hZ _ (List.mem_of_getElem? (i := 13) rfl)) dL_law_463 ?_
  refine m_callS C (As := [.ref bz, .ref (F.2.2 2 26)]) (rest := []) (c_L_put l (w_B F bz) dz 26 (by decide) hb) (va_cwS 2 C.1.2.2.2.2 gL_law_L_put rfl rfl rfl (by decide +kernel) ⟨Nat.le_of_ble_eq_true rfl, Nat.le_of_ble_eq_true rfl⟩) rfl rfl (Nat.le_of_ble_eq_true rfl) dL_law_465 ⟨Nat.le_of_ble_eq_true rfl, Nat.le_of_ble_eq_true rfl⟩ ?_
  refine l_aload C.1 dL_law_468 0 rfl ?_
  obtain ⟨dp, hmp, hp, -⟩ := q_exec_ok (tx := tw 26) (L := x_wL 26) (k9 := 5) (l := l) (p_put_R (v := 26) (k := x_wL 26) h) (by omega) (x_wL_27 26 (by decide)) (p_put_1 dz 26 hb (x_wL 26)) (x_w128 26 (by decide)) (p_put_9 dz 26 (x_wL 26)) (by decide) tx_26a tx_26b.1 tx_26b.2 (zx (zt_1 b)) rfl (zx_st hb5 hb1)
  have h := q_R_z (z2 := zt_7 b) hp (zq_x1 b hb5 hb1)
  refine m_callV C (b := bz) (As := []) (rest := []) (hmp (w_B F bz)) (cwV 0 C.1.2.2.2.2 gL_law_X11_execute rfl rfl rfl (by decide +kernel) ⟨Nat.le_of_ble_eq_true rfl, Nat.le_of_ble_eq_true rfl⟩) rfl rfl (Nat.le_of_ble_eq_true rfl) dL_law_470 ⟨Nat.le_of_ble_eq_true rfl, Nat.le_of_ble_eq_true rfl⟩ ?_
  refine l_top (y := 6) rfl ?_
  refine l_bipush C.1 dL_law_473 (v := 6) (by decide) ?_
  refine l_icmp_ne C.1 dL_law_475 (tgt := 619) (by decide) (fun h => absurd rfl h) (fun h475 => ?_)
  refine l_aload C.1 dL_law_478 0 rfl ?_
  obtain ⟨d54, lv54, hlv54, hm54, h, hk54⟩ := qa_pool h (zq_p0 b hb5 hb1)
  refine m_callV C (b := bz) (As := []) (rest := []) (hm54 (w_B F bz)) (cwV 0 C.1.2.2.2.2 gL_law_X11_pool rfl rfl rfl (by decide +kernel) ⟨by dsimp only [x_rm, room_1]; omega, by dsimp only [x_rm, room_1]; omega⟩) rfl rfl (Nat.le_of_ble_eq_true rfl) dL_law_480 ⟨Nat.le_of_ble_eq_true rfl, Nat.le_of_ble_eq_true rfl⟩ ?_
  refine l_bipush C.1 dL_law_483 (v := 15) (by decide) ?_
  refine l_icmp_ne C.1 dL_law_485 (tgt := 619) (by decide) (fun h => absurd rfl h) (fun h485 => ?_)
  refine l_aload C.1 dL_law_488 0 rfl ?_
  refine l_iconst C.1 dL_law_490 (v := 0) (by decide) ?_
  refine l_bipush C.1 dL_law_491 (v := 10) (by decide) ?_
  obtain ⟨d55, lv55, hlv55, hm55, h, hk55⟩ := qa_portionOf 0 10 h (zq_p1 b hb5 hb1).1 (by decide) (zq_p1 b hb5 hb1).2
  refine m_callV C (b := bz) (As := [.int 0, .int 10]) (rest := []) (hm55 (w_B F bz)) (cwV 2 C.1.2.2.2.2 gL_law_X11_portionOf rfl rfl rfl (by decide +kernel) ⟨by dsimp only [x_rm, room_1]; omega, by dsimp only [x_rm, room_1]; omega⟩) rfl rfl (Nat.le_of_ble_eq_true rfl) dL_law_493 ⟨Nat.le_of_ble_eq_true rfl, Nat.le_of_ble_eq_true rfl⟩ ?_
  refine l_iconst C.1 dL_law_496 (v := 5) (by decide) ?_
  refine l_icmp_ne C.1 dL_law_497 (tgt := 619) (by decide) (fun h => absurd rfl h) (fun h497 => ?_)
  refine l_aload C.1 dL_law_500 0 rfl ?_
  refine l_iconst C.1 dL_law_502 (v := 1) (by decide) ?_
  refine l_bipush C.1 dL_law_503 (v := 10) (by decide) ?_
  obtain ⟨d56, lv56, hlv56, hm56, h, hk56⟩ := qa_portionOf 1 10 h (zq_p2 b hb5 hb1).1 (by decide) (zq_p2 b hb5 hb1).2
  refine m_callV C (b := bz) (As := [.int 1, .int 10]) (rest := []) (hm56 (w_B F bz)) (cwV 2 C.1.2.2.2.2 gL_law_X11_portionOf rfl rfl rfl (by decide +kernel) ⟨by dsimp only [x_rm, room_1]; omega, by dsimp only [x_rm, room_1]; omega⟩) rfl rfl (Nat.le_of_ble_eq_true rfl) dL_law_505 ⟨Nat.le_of_ble_eq_true rfl, Nat.le_of_ble_eq_true rfl⟩ ?_
  refine l_iconst C.1 dL_law_508 (v := 3) (by decide) ?_
  refine l_icmp_ne C.1 dL_law_509 (tgt := 619) (by decide) (fun h => absurd rfl h) (fun h509 => ?_)
  refine l_aload C.1 dL_law_512 0 rfl ?_
  refine l_iconst C.1 dL_law_514 (v := 2) (by decide) ?_
  refine l_bipush C.1 dL_law_515 (v := 10) (by decide) ?_
  obtain ⟨d57, lv57, hlv57, hm57, h, hk57⟩ := qa_portionByRounds 2 10 h (zq_p3 b hb5 hb1).1 (by decide) (zq_p3 b hb5 hb1).2
  refine m_callV C (b := bz) (As := [.int 2, .int 10]) (rest := []) (hm57 (w_B F bz)) (cwV 2 C.1.2.2.2.2 gL_law_X11_portionByRounds rfl rfl rfl (by decide +kernel) ⟨by dsimp only [x_rm, room_1]; omega, by dsimp only [x_rm, room_1]; omega⟩) rfl rfl (Nat.le_of_ble_eq_true rfl) dL_law_517 ⟨Nat.le_of_ble_eq_true rfl, Nat.le_of_ble_eq_true rfl⟩ ?_
  refine l_iconst C.1 dL_law_520 (v := 2) (by decide) ?_
  refine l_icmp_ne C.1 dL_law_521 (tgt := 619) (by decide) (fun h => absurd rfl h) (fun h521 => ?_)
  refine l_aload C.1 dL_law_524 0 rfl ?_
  refine l_iconst C.1 dL_law_526 (v := 0) (by decide) ?_
  refine l_iconst C.1 dL_law_527 (v := 1) (by decide) ?_
  obtain ⟨d58, lv58, hlv58, hm58, h, hk58⟩ := qa_portionOf 0 1 h (zq_p4 b hb5 hb1).1 (by decide) (zq_p4 b hb5 hb1).2
  refine m_callV C (b := bz) (As := [.int 0, .int 1]) (rest := []) (hm58 (w_B F bz)) (cwV 2 C.1.2.2.2.2 gL_law_X11_portionOf rfl rfl rfl (by decide +kernel) ⟨by dsimp only [x_rm, room_1]; omega, by dsimp only [x_rm, room_1]; omega⟩) rfl rfl (Nat.le_of_ble_eq_true rfl) dL_law_528 ⟨Nat.le_of_ble_eq_true rfl, Nat.le_of_ble_eq_true rfl⟩ ?_
  refine l_iconst C.1 dL_law_531 (v := 1) (by decide) ?_
  refine l_icmp_ne C.1 dL_law_532 (tgt := 619) (by decide) (fun h => absurd rfl h) (fun h532 => ?_)
  refine l_aload C.1 dL_law_535 0 rfl ?_
  refine l_iconst C.1 dL_law_537 (v := 0) (by decide) ?_
  refine l_iconst C.1 dL_law_538 (v := 4) (by decide) ?_
  obtain ⟨d59, lv59, hlv59, hm59, h, hk59⟩ := qa_portionOf 0 4 h (zq_p5 b hb5 hb1).1 (by decide) (zq_p5 b hb5 hb1).2
  refine m_callV C (b := bz) (As := [.int 0, .int 4]) (rest := []) (hm59 (w_B F bz)) (cwV 2 C.1.2.2.2.2 gL_law_X11_portionOf rfl rfl rfl (by decide +kernel) ⟨by dsimp only [x_rm, room_1]; omega, by dsimp only [x_rm, room_1]; omega⟩) rfl rfl (Nat.le_of_ble_eq_true rfl) dL_law_539 ⟨Nat.le_of_ble_eq_true rfl, Nat.le_of_ble_eq_true rfl⟩ ?_
  refine l_iconst C.1 dL_law_542 (v := 2) (by decide) ?_
  refine l_icmp_ne C.1 dL_law_543 (tgt := 619) (by decide) (fun h => absurd rfl h) (fun h543 => ?_)
  refine l_aload C.1 dL_law_546 0 rfl ?_
  refine l_iconst C.1 dL_law_548 (v := 1) (by decide) ?_
  refine l_iconst C.1 dL_law_549 (v := 4) (by decide) ?_
  obtain ⟨d60, lv60, hlv60, hm60, h, hk60⟩ := qa_portionOf 1 4 h (zq_p6 b hb5 hb1).1 (by decide) (zq_p6 b hb5 hb1).2
  refine m_callV C (b := bz) (As := [.int 1, .int 4]) (rest := []) (hm60 (w_B F bz)) (cwV 2 C.1.2.2.2.2 gL_law_X11_portionOf rfl rfl rfl (by decide +kernel) ⟨by dsimp only [x_rm, room_1]; omega, by dsimp only [x_rm, room_1]; omega⟩) rfl rfl (Nat.le_of_ble_eq_true rfl) dL_law_550 ⟨Nat.le_of_ble_eq_true rfl, Nat.le_of_ble_eq_true rfl⟩ ?_
  refine l_iconst C.1 dL_law_553 (v := 1) (by decide) ?_
  refine l_icmp_ne C.1 dL_law_554 (tgt := 619) (by decide) (fun h => absurd rfl h) (fun h554 => ?_)
  refine l_aload C.1 dL_law_557 0 rfl ?_
  refine l_iconst C.1 dL_law_559 (v := 2) (by decide) ?_
  refine l_iconst C.1 dL_law_560 (v := 4) (by decide) ?_
  obtain ⟨d61, lv61, hlv61, hm61, h, hk61⟩ := qa_portionOf 2 4 h (zq_p7 b hb5 hb1).1 (by decide) (zq_p7 b hb5 hb1).2
  refine m_callV C (b := bz) (As := [.int 2, .int 4]) (rest := []) (hm61 (w_B F bz)) (cwV 2 C.1.2.2.2.2 gL_law_X11_portionOf rfl rfl rfl (by decide +kernel) ⟨by dsimp only [x_rm, room_1]; omega, by dsimp only [x_rm, room_1]; omega⟩) rfl rfl (Nat.le_of_ble_eq_true rfl) dL_law_561 ⟨Nat.le_of_ble_eq_true rfl, Nat.le_of_ble_eq_true rfl⟩ ?_
  refine l_iconst C.1 dL_law_564 (v := 1) (by decide) ?_
  refine l_icmp_ne C.1 dL_law_565 (tgt := 619) (by decide) (fun h => absurd rfl h) (fun h565 => ?_)
  refine l_aload C.1 dL_law_568 0 rfl ?_
  obtain ⟨d62, lv62, hlv62, hm62, h, hk62⟩ := q_A_ok (q_payDividend hfl h (by omega)) (zq_o1 b hb5 hb1)
  refine m_callV C (b := bz) (As := []) (rest := []) (hm62 (w_B F bz)) (cwV 0 C.1.2.2.2.2 gL_law_X11_payDividend rfl rfl rfl (by decide +kernel) ⟨by dsimp only [x_rm, room_1]; omega, by dsimp only [x_rm, room_1]; omega⟩) rfl rfl (Nat.le_of_ble_eq_true rfl) dL_law_570 ⟨Nat.le_of_ble_eq_true rfl, Nat.le_of_ble_eq_true rfl⟩ ?_
  refine l_bipush C.1 dL_law_573 (v := 12) (by decide) ?_
  refine l_icmp_ne C.1 dL_law_575 (tgt := 619) (by decide) (fun h => absurd rfl h) (fun h575 => ?_)
  refine l_aload C.1 dL_law_578 0 rfl ?_
  refine l_iconst C.1 dL_law_580 (v := 0) (by decide) ?_
  obtain ⟨d63, lv63, hlv63, hm63, h, hk63⟩ := qa_balanceOf 0 h (zq_l0 b hb5 hb1).1 (zq_l0 b hb5 hb1).2
  refine m_callV C (b := bz) (As := [.int 0]) (rest := []) (hm63 (w_B F bz)) (cwV 1 C.1.2.2.2.2 gL_law_X11_balanceOf rfl rfl rfl (by decide +kernel) ⟨by dsimp only [x_rm, room_1]; omega, by dsimp only [x_rm, room_1]; omega⟩) rfl rfl (Nat.le_of_ble_eq_true rfl) dL_law_581 ⟨Nat.le_of_ble_eq_true rfl, Nat.le_of_ble_eq_true rfl⟩ ?_
  refine l_bipush C.1 dL_law_584 (v := 6) (by decide) ?_
  refine l_icmp_ne C.1 dL_law_586 (tgt := 619) (by decide) (fun h => absurd rfl h) (fun h586 => ?_)
  refine l_aload C.1 dL_law_589 0 rfl ?_
  refine l_iconst C.1 dL_law_591 (v := 1) (by decide) ?_
  obtain ⟨d64, lv64, hlv64, hm64, h, hk64⟩ := qa_balanceOf 1 h (zq_l1 b hb5 hb1).1 (zq_l1 b hb5 hb1).2
  refine m_callV C (b := bz) (As := [.int 1]) (rest := []) (hm64 (w_B F bz)) (cwV 1 C.1.2.2.2.2 gL_law_X11_balanceOf rfl rfl rfl (by decide +kernel) ⟨by dsimp only [x_rm, room_1]; omega, by dsimp only [x_rm, room_1]; omega⟩) rfl rfl (Nat.le_of_ble_eq_true rfl) dL_law_592 ⟨Nat.le_of_ble_eq_true rfl, Nat.le_of_ble_eq_true rfl⟩ ?_
  refine l_iconst C.1 dL_law_595 (v := 4) (by decide) ?_
  refine l_icmp_ne C.1 dL_law_596 (tgt := 619) (by decide) (fun h => absurd rfl h) (fun h596 => ?_)
  refine l_aload C.1 dL_law_599 0 rfl ?_
  refine l_iconst C.1 dL_law_601 (v := 2) (by decide) ?_
  obtain ⟨d65, lv65, hlv65, hm65, h, hk65⟩ := qa_balanceOf 2 h (zq_l2 b hb5 hb1).1 (zq_l2 b hb5 hb1).2
  refine m_callV C (b := bz) (As := [.int 2]) (rest := []) (hm65 (w_B F bz)) (cwV 1 C.1.2.2.2.2 gL_law_X11_balanceOf rfl rfl rfl (by decide +kernel) ⟨by dsimp only [x_rm, room_1]; omega, by dsimp only [x_rm, room_1]; omega⟩) rfl rfl (Nat.le_of_ble_eq_true rfl) dL_law_602 ⟨Nat.le_of_ble_eq_true rfl, Nat.le_of_ble_eq_true rfl⟩ ?_
  refine l_iconst C.1 dL_law_605 (v := 2) (by decide) ?_
  refine l_icmp_ne C.1 dL_law_606 (tgt := 619) (by decide) (fun h => absurd rfl h) (fun h606 => ?_)
  refine l_aload C.1 dL_law_609 0 rfl ?_
  refine l_iconst C.1 dL_law_611 (v := 2) (by decide) ?_
  obtain ⟨d66, lv66, hlv66, hm66, h, hk66⟩ := qa_richestLamp 2 2 h (zq_l3 b hb5 hb1).1.1 (zq_l3 b hb5 hb1).1.1 (zq_l3 b hb5 hb1).1.2 (zq_l3 b hb5 hb1).2.1 (zq_l3 b hb5 hb1).2.2 rfl
  refine m_callV C (b := bz) (As := [.int 2]) (rest := []) (hm66 (w_B F bz)) (cwV 1 C.1.2.2.2.2 gL_law_X11_richestLamp rfl rfl rfl (by decide +kernel) ⟨by dsimp only [x_rm, room_1]; omega, by dsimp only [x_rm, room_1]; omega⟩) rfl rfl (Nat.le_of_ble_eq_true rfl) dL_law_612 ⟨Nat.le_of_ble_eq_true rfl, Nat.le_of_ble_eq_true rfl⟩ ?_
  refine l_iconst C.1 dL_law_615 (v := 2) (by decide) ?_
  refine l_icmp_eq C.1 dL_law_616 (tgt := 621) (by decide) (fun h616 => ?_) (fun h => absurd rfl h)
  refine l_widen (k := 1400) (n := 8100) (Nat.le_of_ble_eq_true rfl) (Nat.le_of_ble_eq_true rfl) ?_
  exact K _ _ (q_R_up h (by omega))
set_option maxHeartbeats 2000000 in
theorem z_3b (C : Mx F p s m args c cL_law wsL_law RL 9) (hfl : l.stackTraces = false) (hb5 : b < 5) (hb1 : 1 ≤ b) (h : q_R 0 dz (zt_0 b) hs) (hb : dz 168 1 = 0)
    (K : ∀ (d : xd) (hs : List (Nat → Int32)), q_R 600 d (zt_1 b) hs → d 168 1 = 0 → Lb p l e room_1 s m args below meth c 9 1300 8000 Q (w_A s) (m_P F s.heap.size [(bz, d), (bx, dx)]) 461 [(8, .ref bz), (7, .int (6 * nI b)), (6, .int (nI b)), (5, .int cc), (4, .int now), (3, .int many), (1, .ref bx), (0, .ref sb)] []) : Lb p l e room_1 s m args below meth c 9 1290 7900 Q (w_A s) (m_P F s.heap.size [(bz, dz), (bx, dx)]) 380 [(8, .ref bz), (7, .int (6 * nI b)), (6, .int (nI b)), (5, .int cc), (4, .int now), (3, .int many), (1, .ref bx), (0, .ref sb)] [] := by
  refine l_aload C.1 dL_law_380 0 rfl ?_
  obtain ⟨d67, lv67, hlv67, hm67, h, hk67⟩ := qa_isBalanced h rfl
  have hb := (congrFun (hk67 168 (by omega)) 1).trans hb
  refine m_callV C (b := bz) (As := []) (rest := []) (hm67 (w_B F bz)) (cwV 0 C.1.2.2.2.2 gL_law_X11_isBalanced rfl rfl rfl (by decide +kernel) ⟨by dsimp only [x_rm, room_1]; omega, by dsimp only [x_rm, room_1]; omega⟩) rfl rfl (Nat.le_of_ble_eq_true rfl) dL_law_382 ⟨Nat.le_of_ble_eq_true rfl, Nat.le_of_ble_eq_true rfl⟩ ?_
  refine l_if_eq C.1 dL_law_385 (tgt := 459) (by decide) (fun h => absurd h (by decide)) (fun h385 => ?_)
  refine l_aload C.1 dL_law_388 0 rfl ?_
  obtain ⟨d68, lv68, hlv68, hm68, h, hk68⟩ := qa_totalShares h (zq_w0 b hb5 hb1)
  have hb := (congrFun (hk68 168 (by omega)) 1).trans hb
  refine m_callV C (b := bz) (As := []) (rest := []) (hm68 (w_B F bz)) (cwV 0 C.1.2.2.2.2 gL_law_X11_totalShares rfl rfl rfl (by decide +kernel) ⟨by dsimp only [x_rm, room_1]; omega, by dsimp only [x_rm, room_1]; omega⟩) rfl rfl (Nat.le_of_ble_eq_true rfl) dL_law_390 ⟨Nat.le_of_ble_eq_true rfl, Nat.le_of_ble_eq_true rfl⟩ ?_
  refine l_if_ne C.1 dL_law_393 (tgt := 459) (by decide) (fun h => absurd h (by decide)) (fun h393 => ?_)
  refine l_aload C.1 dL_law_396 0 rfl ?_
  obtain ⟨d69, lv69, hlv69, hm69, h, hk69⟩ := qa_brightestStreet h (zq_w1 b hb5 hb1)
  have hb := (congrFun (hk69 168 (by omega)) 1).trans hb
  refine m_callV C (b := bz) (As := []) (rest := []) (hm69 (w_B F bz)) (cwV 0 C.1.2.2.2.2 gL_law_X11_brightestStreet rfl rfl rfl (by decide +kernel) ⟨by dsimp only [x_rm, room_1]; omega, by dsimp only [x_rm, room_1]; omega⟩) rfl rfl (Nat.le_of_ble_eq_true rfl) dL_law_398 ⟨Nat.le_of_ble_eq_true rfl, Nat.le_of_ble_eq_true rfl⟩ ?_
  refine l_if_ne C.1 dL_law_401 (tgt := 459) (by decide) (fun h => absurd h (by decide)) (fun h401 => ?_)
  refine l_aload C.1 dL_law_404 0 rfl ?_
  refine l_iconst C.1 dL_law_406 (v := 3) (by decide) ?_
  obtain ⟨d70, lv70, hlv70, hm70, h, hk70⟩ := qa_isDark (x := 3) h (by decide) (zq_w2 b hb5 hb1)
  have hb := (congrFun (hk70 168 (by omega)) 1).trans hb
  refine m_callV C (b := bz) (As := [.int 3]) (rest := []) (hm70 (w_B F bz)) (cwV 1 C.1.2.2.2.2 gL_law_X11_isDark rfl rfl rfl (by decide +kernel) ⟨by dsimp only [x_rm, room_1]; omega, by dsimp only [x_rm, room_1]; omega⟩) rfl rfl (Nat.le_of_ble_eq_true rfl) dL_law_407 ⟨Nat.le_of_ble_eq_true rfl, Nat.le_of_ble_eq_true rfl⟩ ?_
  refine l_if_eq C.1 dL_law_410 (tgt := 459) (by decide) (fun h => absurd h (by decide)) (fun h410 => ?_)
  refine l_aload C.1 dL_law_413 0 rfl ?_
  refine l_iconst C.1 dL_law_415 (v := 5) (by decide) ?_
  refine l_bipush C.1 dL_law_416 (v := 10) (by decide) ?_
  refine l_iconst C.1 dL_law_418 (v := 0) (by decide) ?_
  obtain ⟨d71, hm71, h, hk71⟩ := q_A_x (c_L_act_5 hfl h (by omega) 10 0) (zq_w3 b hb5 hb1)
  have hb := (congrFun (hk71 168 (by omega)) 1).trans hb
  refine m_callH C (As := [.ref bz, .int 5, .int 10, .int 0]) (rest := []) (hm71 (w_B F bz)) (vx_cwSW 4 C.1.2.2.2.2 gL_law_L_act rfl rfl rfl (by decide +kernel) ⟨Nat.le_of_ble_eq_true rfl, Nat.le_of_ble_eq_true rfl⟩) rfl rfl (Nat.le_of_ble_eq_true rfl) dL_law_419 ⟨Nat.le_of_ble_eq_true rfl, Nat.le_of_ble_eq_true rfl⟩ ?_
  refine l_top (y := -2) (by decide) ?_
  refine l_bipush C.1 dL_law_422 (v := (-2)) (by decide) ?_
  refine l_icmp_ne C.1 dL_law_424 (tgt := 459) (by decide) (fun h => absurd rfl h) (fun h424 => ?_)
  refine l_aload C.1 dL_law_427 0 rfl ?_
  refine l_bipush C.1 dL_law_429 (v := 13) (by decide) ?_
  refine l_iconst C.1 dL_law_431 (v := 0) (by decide) ?_
  refine l_iconst C.1 dL_law_432 (v := 0) (by decide) ?_
  obtain ⟨d72, hm72, h, hk72⟩ := q_A_x (c_L_act_13 hfl h (by omega) 0 0) (zq_w4 b hb5 hb1)
  have hb := (congrFun (hk72 168 (by omega)) 1).trans hb
  refine m_callH C (As := [.ref bz, .int 13, .int 0, .int 0]) (rest := []) (hm72 (w_B F bz)) (vx_cwSW 4 C.1.2.2.2.2 gL_law_L_act rfl rfl rfl (by decide +kernel) ⟨Nat.le_of_ble_eq_true rfl, Nat.le_of_ble_eq_true rfl⟩) rfl rfl (Nat.le_of_ble_eq_true rfl) dL_law_433 ⟨Nat.le_of_ble_eq_true rfl, Nat.le_of_ble_eq_true rfl⟩ ?_
  refine l_top (y := -2) (by decide) ?_
  refine l_bipush C.1 dL_law_436 (v := (-2)) (by decide) ?_
  refine l_icmp_ne C.1 dL_law_438 (tgt := 459) (by decide) (fun h => absurd rfl h) (fun h438 => ?_)
  refine l_aload C.1 dL_law_441 0 rfl ?_
  obtain ⟨d73, lv73, hlv73, hm73, h, hk73⟩ := q_A_ok (q_burnNight hfl h (by omega)) (zq_o0 b hb5 hb1)
  have hb := (congrFun (hk73 168 (by omega)) 1).trans hb
  refine m_callV C (b := bz) (As := []) (rest := []) (hm73 (w_B F bz)) (cwV 0 C.1.2.2.2.2 gL_law_X11_burnNight rfl rfl rfl (by decide +kernel) ⟨by dsimp only [x_rm, room_1]; omega, by dsimp only [x_rm, room_1]; omega⟩) rfl rfl (Nat.le_of_ble_eq_true rfl) dL_law_443 ⟨Nat.le_of_ble_eq_true rfl, Nat.le_of_ble_eq_true rfl⟩ ?_
  refine l_if_ne C.1 dL_law_446 (tgt := 459) (by decide) (fun h => absurd h (by decide)) (fun h446 => ?_)
  refine l_aload C.1 dL_law_449 0 rfl ?_
  obtain ⟨d74, lv74, hlv74, hm74, h, hk74⟩ := qa_treasury h (zq_w5 b hb5 hb1)
  have hb := (congrFun (hk74 168 (by omega)) 1).trans hb
  refine m_callV C (b := bz) (As := []) (rest := []) (hm74 (w_B F bz)) (cwV 0 C.1.2.2.2.2 gL_law_X11_treasury rfl rfl rfl (by decide +kernel) ⟨by dsimp only [x_rm, room_1]; omega, by dsimp only [x_rm, room_1]; omega⟩) rfl rfl (Nat.le_of_ble_eq_true rfl) dL_law_451 ⟨Nat.le_of_ble_eq_true rfl, Nat.le_of_ble_eq_true rfl⟩ ?_
  refine l_bipush C.1 dL_law_454 (v := 12) (by decide) ?_
  refine l_icmp_eq C.1 dL_law_456 (tgt := 461) (by decide) (fun h456 => ?_) (fun h => absurd rfl h)
  refine l_widen (k := 1300) (n := 8000) (Nat.le_of_ble_eq_true rfl) (Nat.le_of_ble_eq_true rfl) ?_
  exact K _ _ (q_R_up h (by omega)) hb
end LZ
