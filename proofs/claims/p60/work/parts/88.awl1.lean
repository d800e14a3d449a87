/-! the words of the first list: the longest code by its place -/
set_option maxRecDepth 20000 in
theorem wl_1a : GoodIn lw_tbl [Cond.classLink RL 18 RX11, Cond.instantiable RX11 13, Cond.initialized RX11, Cond.methodLink RL 157 yL_build, Cond.static yL_build, Cond.initialized RL] := goodIn_of _ (by decide +kernel)
set_option maxRecDepth 1000000 in
set_option maxHeartbeats 4000000 in
theorem wl_1i : tables_1[1024]? = some (Cond.code yL_build cL_build 7 (some (.object "LampCooperative"))) := rfl
theorem wl_1b : GoodIn lw_tbl [Cond.code yL_build cL_build 7 (some (.object "LampCooperative"))] := goodIn_sub (fun w h => by
  rw [List.mem_singleton.mp h]
  exact List.mem_append_right _ (List.mem_of_getElem? wl_1i)) (by decide +kernel)
set_option maxRecDepth 20000 in
theorem wl_1c : GoodIn lw_tbl [Cond.methodLink RL 37 Lib.Math.max.name, Cond.static Lib.Math.max.name, Cond.initialized "java/lang/Math", Cond.code Lib.Math.max.name Lib.Math.max.code 2 (some .int), Cond.methodLink RL 23 yX11_init, Cond.instanceMethod yX11_init, Cond.code yX11_init cX11_init 1 none, Cond.methodLink RX11 1 objectInit, Cond.instanceMethod objectInit, Cond.code objectInit ⟨#[0xb1]⟩ 1 none, Cond.classLink RX11 7 RX9, Cond.instantiable RX9 3, Cond.initialized RX9, Cond.fieldLink RX11 10 "LampCooperative" "state" "LLampCooperative$State;", Cond.fieldLink RX11 16 "LampCooperative" "beforeText" "LLampCooperative$State;", Cond.fieldLink RX11 19 "LampCooperative" "snapshot" "LLampCooperative$State;", Cond.fieldLink RX11 22 "LampCooperative" "hasSnapshot" "Z"] := goodIn_p _ [930, 56, 59] (by decide +kernel) (by decide +kernel)
theorem wl_1 : GoodIn lw_tbl wsL_law0_r1 := goodIn_app wl_1a (goodIn_app wl_1b wl_1c)
