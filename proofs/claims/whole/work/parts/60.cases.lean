/-! The law's cases 0 to 5. Rows by wip/whole/gen/part60.py. -/
theorem bI_01 (x : Bool) : bI x = 0 ∨ bI x = 1 := by cases x <;> decide
theorem lw_tn {nk nb nm : Nat} {A B : Nat → Nat → Int32} {S T : Nat → Int32} (R : RR nk nb nm A S B T) : ∀ b, b < nb → ∃ t, t < 5 ∧ B 6 b = nI t := by
  rw [← R.2.2.1.2.1.1]; exact R.2.2.1.2.2.2.1
theorem lw_wk {nk nb nm : Nat} {A B : Nat → Nat → Int32} {S T : Nat → Int32} (R : RR nk nb nm A S B T) : wOK (B 0) := by
  rw [← R.2.2.2.1.1]; exact R.2.2.2.1.2.2
section CASES0
variable {p : Program} {l : Launch} {e : Env} {s : State} {m : MethodId} {args : Array Value} {below : List Frame} {meth : Method} {c : Code} {H : Heap} {locs : List Loc} {cells slots : Nat} {Q : State → Prop}
variable {ls : Array Slot} {D : va_G} {cy : Nat → ClassId} {b L : Nat} {xs : Nat → Int32} {i : Int32} {q q' : Nat → Nat}
set_option maxHeartbeats 4000000 in
set_option maxRecDepth 100000 in
theorem lw_c0 (C : CallFix p m c cL_law 8 s args wsL_law RL) (hts : ∀ w ∈ wsL_law, w.before args s = true) (hst : l.stackTraces = false) (hX : lwS b L xs s i) (h : inv s D cy q q' b i H locs ls) (hc : cells + 1 ≤ 1089) (hs : slots + 6 ≤ 8871)
    (kk : ∀ (H : Heap) (locs : List Loc) (ls : Array Slot), inv s D cy q q' b i H locs ls → W p l e room_1 s m args below meth c H locs (cells + 1) (slots + 6) Q (F0 m 2139 ls [])) : W p l e room_1 s m args below meth c H locs cells slots Q (F0 m 188 ls []) := by
  obtain ⟨nk, nb, nm, A, S, B, T, f, g, R, hI, hS, hl⟩ := h
  have hx := C.1
  have hb := C.2.1
  refine lv_aload_n hx hb dL_law_188 rfl (lv_at hl 2 rfl) ?_
  refine r_arg C hX hS (lv_at hl 0 rfl) (lv_at hl 1 rfl) (by decide) hX.2.2.2.1 dL_law_189 dL_law_190 dL_law_192 dL_law_193 dL_law_194 ?_
  refine r_arg C hX hS (lv_at hl 0 rfl) (lv_at hl 1 rfl) (by decide) hX.2.2.2.2.1 dL_law_195 dL_law_196 dL_law_198 dL_law_199 dL_law_200 ?_
  refine r_arg C hX hS (lv_at hl 0 rfl) (lv_at hl 1 rfl) (by decide) hX.2.2.2.2.2 dL_law_201 dL_law_202 dL_law_204 dL_law_205 dL_law_206 ?_
  refine lv_aload_n hx hb dL_law_207 rfl (lv_at hl 4 rfl) ?_
  refine wl_i (vx_runSW (As := [.ref (q 0), .int (xs (i + 1).toNatClampNeg), .int (xs (i + 2).toNatClampNeg), .int (xs (i + 3).toNatClampNeg), .ref (q 19)]) (rest := []) C (c_L_addKey l hst D cy s.heap.size q A S f g (xs (i + 1).toNatClampNeg) (xs (i + 2).toNatClampNeg) (xs (i + 3).toNatClampNeg) nk R.1.1 R.1.2.1) (vx_cwSW 5 hts gL_law_L_addKey rfl rfl rfl (by decide +kernel) ⟨Nat.le_of_ble_eq_true rfl, Nat.le_of_ble_eq_true rfl⟩) (IH.left hI).preS rfl rfl hl.1 rfl (lv_room (Nat.le_of_ble_eq_true rfl)) dL_law_208 ⟨Nat.le_trans (Nat.add_le_add_left (c1_le _) _) hc, Nat.le_trans (Nat.add_le_add_left (c6_le _) _) hs⟩) hI hS wO_ite in_O (fun H locs hI hS => ?_)
  refine lv_istore (lv' := (6, .int _) :: lc b q q' i) hx hb dL_law_211 hl (by decide) rfl (fun ls hl => ?_)
  refine lv_aload_n hx hb dL_law_213 rfl (lv_at hl 4 rfl) ?_
  refine r_arg C hX hS (lv_at hl 1 rfl) (lv_at hl 2 rfl) (by decide) hX.2.2.2.1 dL_law_214 dL_law_215 dL_law_217 dL_law_218 dL_law_219 ?_
  refine r_arg C hX hS (lv_at hl 1 rfl) (lv_at hl 2 rfl) (by decide) hX.2.2.2.2.1 dL_law_220 dL_law_221 dL_law_223 dL_law_224 dL_law_225 ?_
  refine r_arg C hX hS (lv_at hl 1 rfl) (lv_at hl 2 rfl) (by decide) hX.2.2.2.2.2 dL_law_226 dL_law_227 dL_law_229 dL_law_230 dL_law_231 ?_
  refine wr_i (va_runV (As := [.int (xs (i + 1).toNatClampNeg), .int (xs (i + 2).toNatClampNeg), .int (xs (i + 3).toNatClampNeg)]) (rest := []) C (c_X4_addKey l D cy s.heap.size q' B T (xs (i + 1).toNatClampNeg) (xs (i + 2).toNatClampNeg) (xs (i + 3).toNatClampNeg) nk R.1.1 R.1.2.2.1) (cwV 3 hts gL_law_X4_addKey rfl rfl rfl (by decide +kernel) ⟨Nat.le_of_ble_eq_true rfl, Nat.le_of_ble_eq_true rfl⟩) ((IH.right hI).preV (k0 := 0) rfl rfl) rfl rfl hl.1 rfl (lv_room (Nat.le_of_ble_eq_true rfl)) dL_law_232 ⟨Nat.le_trans (Nat.add_le_add_left (c1_le _) _) hc, Nat.le_trans (Nat.add_le_add_left (c6_le _) _) hs⟩) hI hS rfl in_M (fun H locs hI hS => ?_)
  refine lv_istore (lv' := (7, .int _) :: (6, .int _) :: lc b q q' i) hx hb dL_law_235 hl (by decide) rfl (fun ls hl => ?_)
  refine tail_i C hts hI hS (by first | rfl | (split <;> first | rfl | (rename_i h9; exact h9.symm))) hl (Nat.le_trans (Nat.add_le_add_left (c1_le _) _) hc) (Nat.le_trans (Nat.add_le_add_left (c6_le _) _) hs) (s_addKey R (xs (i + 1).toNatClampNeg) (xs (i + 2).toNatClampNeg) (xs (i + 3).toNatClampNeg)) (fun hex hm hg => (if_pos hm).trans hg.1.symm) (fun hex => if_pos hex) dL_law_237 dL_law_238 dL_law_241 dL_law_243 dL_law_248 dL_law_250 dL_law_253 dL_law_254 dL_law_255 dL_law_256 dL_law_258 dL_law_259 dL_law_260 dL_law_265 (by decide) (fun H locs ls hI hS hl => W.widen (Nat.add_le_add_left (c1_le _) _) (Nat.add_le_add_left (c6_le _) _) (kk H locs ls ?_))
  rcases (s_addKey R (xs (i + 1).toNatClampNeg) (xs (i + 2).toNatClampNeg) (xs (i + 3).toNatClampNeg)) with ⟨hex, hm, hg⟩ | ⟨E, hex, -, hm⟩
  · rw [if_pos hex] at hI
    repeat rw [if_pos hm] at hI
    exact inv_mk hI hS hl hg.2.2
  · rw [if_neg (by rw [hex]; exact Option.some_ne_none _)] at hI
    repeat rw [if_neg hm] at hI
    exact inv_mk hI hS hl R
set_option maxHeartbeats 4000000 in
set_option maxRecDepth 100000 in
theorem lw_c1 (C : CallFix p m c cL_law 8 s args wsL_law RL) (hts : ∀ w ∈ wsL_law, w.before args s = true) (hst : l.stackTraces = false) (hX : lwS b L xs s i) (h : inv s D cy q q' b i H locs ls) (hc : cells + 1 ≤ 1089) (hs : slots + 6 ≤ 8871)
    (kk : ∀ (H : Heap) (locs : List Loc) (ls : Array Slot), inv s D cy q q' b i H locs ls → W p l e room_1 s m args below meth c H locs (cells + 1) (slots + 6) Q (F0 m 2139 ls [])) : W p l e room_1 s m args below meth c H locs cells slots Q (F0 m 268 ls []) := by
  obtain ⟨nk, nb, nm, A, S, B, T, f, g, R, hI, hS, hl⟩ := h
  have hx := C.1
  have hb := C.2.1
  refine lv_aload_n hx hb dL_law_268 rfl (lv_at hl 2 rfl) ?_
  refine r_arg C hX hS (lv_at hl 0 rfl) (lv_at hl 1 rfl) (by decide) hX.2.2.2.1 dL_law_269 dL_law_270 dL_law_272 dL_law_273 dL_law_274 ?_
  refine lv_aload_n hx hb dL_law_275 rfl (lv_at hl 4 rfl) ?_
  refine wl_i (vx_runSW (As := [.ref (q 0), .int (xs (i + 1).toNatClampNeg), .ref (q 19)]) (rest := []) C (c_L_loseKey l hst D cy s.heap.size q A S f g (xs (i + 1).toNatClampNeg) nk R.1.1 R.1.2.1 nb R.2.2.1.1.1 R.2.2.1.1.2.1 R.2.2.1.2.2.2.1) (vx_cwSW 3 hts gL_law_L_loseKey rfl rfl rfl (by decide +kernel) ⟨Nat.le_of_ble_eq_true rfl, Nat.le_of_ble_eq_true rfl⟩) (IH.left hI).preS rfl rfl hl.1 rfl (lv_room (Nat.le_of_ble_eq_true rfl)) dL_law_276 ⟨Nat.le_trans (Nat.add_le_add_left (c1_le _) _) hc, Nat.le_trans (Nat.add_le_add_left (c6_le _) _) hs⟩) hI hS wO_ite in_O (fun H locs hI hS => ?_)
  refine lv_istore (lv' := (6, .int _) :: lc b q q' i) hx hb dL_law_279 hl (by decide) rfl (fun ls hl => ?_)
  refine lv_aload_n hx hb dL_law_281 rfl (lv_at hl 4 rfl) ?_
  refine r_arg C hX hS (lv_at hl 1 rfl) (lv_at hl 2 rfl) (by decide) hX.2.2.2.1 dL_law_282 dL_law_283 dL_law_285 dL_law_286 dL_law_287 ?_
  refine wr_i (va_runV (As := [.int (xs (i + 1).toNatClampNeg)]) (rest := []) C (c_X4_loseKey l D cy s.heap.size q' B T (xs (i + 1).toNatClampNeg) nk R.1.1 R.1.2.2.1 nb R.2.2.1.1.1 R.2.2.1.1.2.2 (lw_tn R)) (cwV 1 hts gL_law_X4_loseKey rfl rfl rfl (by decide +kernel) ⟨Nat.le_of_ble_eq_true rfl, Nat.le_of_ble_eq_true rfl⟩) ((IH.right hI).preV (k0 := 0) rfl rfl) rfl rfl hl.1 rfl (lv_room (Nat.le_of_ble_eq_true rfl)) dL_law_288 ⟨Nat.le_trans (Nat.add_le_add_left (c1_le _) _) hc, Nat.le_trans (Nat.add_le_add_left (c6_le _) _) hs⟩) hI hS rfl in_M (fun H locs hI hS => ?_)
  refine lv_istore (lv' := (7, .int _) :: (6, .int _) :: lc b q q' i) hx hb dL_law_291 hl (by decide) rfl (fun ls hl => ?_)
  refine tail_i C hts hI hS (by first | rfl | (split <;> first | rfl | (rename_i h9; exact h9.symm))) hl (Nat.le_trans (Nat.add_le_add_left (c1_le _) _) hc) (Nat.le_trans (Nat.add_le_add_left (c6_le _) _) hs) (s_loseKey R (xs (i + 1).toNatClampNeg)) (fun hex hm hg => (if_pos hm).trans hg.1.symm) (fun hex => if_pos hex) dL_law_293 dL_law_294 dL_law_297 dL_law_299 dL_law_304 dL_law_306 dL_law_309 dL_law_310 dL_law_311 dL_law_312 dL_law_314 dL_law_315 dL_law_316 dL_law_321 (by decide) (fun H locs ls hI hS hl => W.widen (Nat.add_le_add_left (c1_le _) _) (Nat.add_le_add_left (c6_le _) _) (kk H locs ls ?_))
  rcases (s_loseKey R (xs (i + 1).toNatClampNeg)) with ⟨hex, hm, hg⟩ | ⟨E, hex, -, hm⟩
  · rw [if_pos hex] at hI
    repeat rw [if_pos hm] at hI
    exact inv_mk hI hS hl hg.2
  · rw [if_neg (by rw [hex]; exact Option.some_ne_none _)] at hI
    repeat rw [if_neg hm] at hI
    exact inv_mk hI hS hl R
set_option maxHeartbeats 4000000 in
set_option maxRecDepth 100000 in
theorem lw_c2 (C : CallFix p m c cL_law 8 s args wsL_law RL) (hts : ∀ w ∈ wsL_law, w.before args s = true) (hst : l.stackTraces = false) (hX : lwS b L xs s i) (h : inv s D cy q q' b i H locs ls) (hc : cells + 1 ≤ 1089) (hs : slots + 6 ≤ 8871)
    (kk : ∀ (H : Heap) (locs : List Loc) (ls : Array Slot), inv s D cy q q' b i H locs ls → W p l e room_1 s m args below meth c H locs (cells + 1) (slots + 6) Q (F0 m 2139 ls [])) : W p l e room_1 s m args below meth c H locs cells slots Q (F0 m 324 ls []) := by
  obtain ⟨nk, nb, nm, A, S, B, T, f, g, R, hI, hS, hl⟩ := h
  have hx := C.1
  have hb := C.2.1
  refine lv_aload_n hx hb dL_law_324 rfl (lv_at hl 2 rfl) ?_
  refine r_arg C hX hS (lv_at hl 0 rfl) (lv_at hl 1 rfl) (by decide) hX.2.2.2.1 dL_law_325 dL_law_326 dL_law_328 dL_law_329 dL_law_330 ?_
  refine r_arg C hX hS (lv_at hl 0 rfl) (lv_at hl 1 rfl) (by decide) hX.2.2.2.2.1 dL_law_331 dL_law_332 dL_law_334 dL_law_335 dL_law_336 ?_
  refine lv_aload_n hx hb dL_law_337 rfl (lv_at hl 4 rfl) ?_
  refine wl_i (vx_runSW (As := [.ref (q 0), .int (xs (i + 1).toNatClampNeg), .int (xs (i + 2).toNatClampNeg), .ref (q 19)]) (rest := []) C (c_L_extendKey l hst D cy s.heap.size q A S f g (xs (i + 1).toNatClampNeg) (xs (i + 2).toNatClampNeg) nk R.1.1 R.1.2.1) (vx_cwSW 4 hts gL_law_L_extendKey rfl rfl rfl (by decide +kernel) ⟨Nat.le_of_ble_eq_true rfl, Nat.le_of_ble_eq_true rfl⟩) (IH.left hI).preS rfl rfl hl.1 rfl (lv_room (Nat.le_of_ble_eq_true rfl)) dL_law_338 ⟨Nat.le_trans (Nat.add_le_add_left (c1_le _) _) hc, Nat.le_trans (Nat.add_le_add_left (c6_le _) _) hs⟩) hI hS wO_ite in_O (fun H locs hI hS => ?_)
  refine lv_istore (lv' := (6, .int _) :: lc b q q' i) hx hb dL_law_341 hl (by decide) rfl (fun ls hl => ?_)
  refine lv_aload_n hx hb dL_law_343 rfl (lv_at hl 4 rfl) ?_
  refine r_arg C hX hS (lv_at hl 1 rfl) (lv_at hl 2 rfl) (by decide) hX.2.2.2.1 dL_law_344 dL_law_345 dL_law_347 dL_law_348 dL_law_349 ?_
  refine r_arg C hX hS (lv_at hl 1 rfl) (lv_at hl 2 rfl) (by decide) hX.2.2.2.2.1 dL_law_350 dL_law_351 dL_law_353 dL_law_354 dL_law_355 ?_
  refine wr_i (va_runV (As := [.int (xs (i + 1).toNatClampNeg), .int (xs (i + 2).toNatClampNeg)]) (rest := []) C (c_X4_extendKey l D cy s.heap.size q' B T (xs (i + 1).toNatClampNeg) (xs (i + 2).toNatClampNeg) nk R.1.1 R.1.2.2.1) (cwV 2 hts gL_law_X4_extendKey rfl rfl rfl (by decide +kernel) ⟨Nat.le_of_ble_eq_true rfl, Nat.le_of_ble_eq_true rfl⟩) ((IH.right hI).preV (k0 := 0) rfl rfl) rfl rfl hl.1 rfl (lv_room (Nat.le_of_ble_eq_true rfl)) dL_law_356 ⟨Nat.le_trans (Nat.add_le_add_left (c1_le _) _) hc, Nat.le_trans (Nat.add_le_add_left (c6_le _) _) hs⟩) hI hS rfl in_M (fun H locs hI hS => ?_)
  refine lv_istore (lv' := (7, .int _) :: (6, .int _) :: lc b q q' i) hx hb dL_law_359 hl (by decide) rfl (fun ls hl => ?_)
  refine tail_i C hts hI hS (by first | rfl | (split <;> first | rfl | (rename_i h9; exact h9.symm))) hl (Nat.le_trans (Nat.add_le_add_left (c1_le _) _) hc) (Nat.le_trans (Nat.add_le_add_left (c6_le _) _) hs) (s_extendKey R (xs (i + 1).toNatClampNeg) (xs (i + 2).toNatClampNeg)) (fun hex hm hg => (if_pos hm).trans hg.1.symm) (fun hex => if_pos hex) dL_law_361 dL_law_362 dL_law_365 dL_law_367 dL_law_372 dL_law_374 dL_law_377 dL_law_378 dL_law_379 dL_law_380 dL_law_382 dL_law_383 dL_law_384 dL_law_389 (by decide) (fun H locs ls hI hS hl => W.widen (Nat.add_le_add_left (c1_le _) _) (Nat.add_le_add_left (c6_le _) _) (kk H locs ls ?_))
  rcases (s_extendKey R (xs (i + 1).toNatClampNeg) (xs (i + 2).toNatClampNeg)) with ⟨hex, hm, hg⟩ | ⟨E, hex, -, hm⟩
  · rw [if_pos hex] at hI
    repeat rw [if_pos hm] at hI
    exact inv_mk hI hS hl hg.2
  · rw [if_neg (by rw [hex]; exact Option.some_ne_none _)] at hI
    repeat rw [if_neg hm] at hI
    exact inv_mk hI hS hl R
set_option maxHeartbeats 4000000 in
set_option maxRecDepth 100000 in
theorem lw_c3 (C : CallFix p m c cL_law 8 s args wsL_law RL) (hts : ∀ w ∈ wsL_law, w.before args s = true) (hst : l.stackTraces = false) (hX : lwS b L xs s i) (h : inv s D cy q q' b i H locs ls) (hc : cells + 1 ≤ 1089) (hs : slots + 6 ≤ 8871)
    (kk : ∀ (H : Heap) (locs : List Loc) (ls : Array Slot), inv s D cy q q' b i H locs ls → W p l e room_1 s m args below meth c H locs (cells + 1) (slots + 6) Q (F0 m 2139 ls [])) : W p l e room_1 s m args below meth c H locs cells slots Q (F0 m 392 ls []) := by
  obtain ⟨nk, nb, nm, A, S, B, T, f, g, R, hI, hS, hl⟩ := h
  have hx := C.1
  have hb := C.2.1
  refine lv_aload_n hx hb dL_law_392 rfl (lv_at hl 2 rfl) ?_
  refine r_arg C hX hS (lv_at hl 0 rfl) (lv_at hl 1 rfl) (by decide) hX.2.2.2.1 dL_law_393 dL_law_394 dL_law_396 dL_law_397 dL_law_398 ?_
  refine lv_aload_n hx hb dL_law_399 rfl (lv_at hl 4 rfl) ?_
  refine wl_i (vx_runSW (As := [.ref (q 0), .int (xs (i + 1).toNatClampNeg), .ref (q 19)]) (rest := []) C (c_L_isLive l hst D cy s.heap.size q A S f g (xs (i + 1).toNatClampNeg) nk R.1.1 R.1.2.1) (vx_cwSW 3 hts gL_law_L_isLive rfl rfl rfl (by decide +kernel) ⟨Nat.le_of_ble_eq_true rfl, Nat.le_of_ble_eq_true rfl⟩) (IH.left hI).preS rfl rfl hl.1 rfl (lv_room (Nat.le_of_ble_eq_true rfl)) dL_law_400 ⟨Nat.le_trans (Nat.add_le_add_left (c1_le _) _) hc, Nat.le_trans (Nat.add_le_add_left (c6_le _) _) hs⟩) hI hS wO_ite in_O (fun H locs hI hS => ?_)
  refine lv_istore (lv' := (6, .int _) :: lc b q q' i) hx hb dL_law_403 hl (by decide) rfl (fun ls hl => ?_)
  refine lv_aload_n hx hb dL_law_405 rfl (lv_at hl 4 rfl) ?_
  refine r_arg C hX hS (lv_at hl 1 rfl) (lv_at hl 2 rfl) (by decide) hX.2.2.2.1 dL_law_406 dL_law_407 dL_law_409 dL_law_410 dL_law_411 ?_
  refine wr_i (va_runV (As := [.int (xs (i + 1).toNatClampNeg)]) (rest := []) C (c_X4_isLive l D cy s.heap.size q' B T (xs (i + 1).toNatClampNeg) nk R.1.1 R.1.2.2.1) (cwV 1 hts gL_law_X4_isLive rfl rfl rfl (by decide +kernel) ⟨Nat.le_of_ble_eq_true rfl, Nat.le_of_ble_eq_true rfl⟩) ((IH.right hI).preV (k0 := 0) rfl rfl) rfl rfl hl.1 rfl (lv_room (Nat.le_of_ble_eq_true rfl)) dL_law_412 ⟨Nat.le_trans (Nat.add_le_add_left (c1_le _) _) hc, Nat.le_trans (Nat.add_le_add_left (c6_le _) _) hs⟩) hI hS rfl in_M (fun H locs hI hS => ?_)
  refine lv_istore (lv' := (7, .int _) :: (6, .int _) :: lc b q q' i) hx hb dL_law_415 hl (by decide) rfl (fun ls hl => ?_)
  refine tail_b C hts hI hS (by first | rfl | (split <;> first | rfl | (rename_i h9; exact h9.symm))) hl (Nat.le_trans (Nat.add_le_add_left (c1_le _) _) hc) (Nat.le_trans (Nat.add_le_add_left (c6_le _) _) hs) (s_isLive R (xs (i + 1).toNatClampNeg)) (fun hex hm hg => hg.symm) (bI_01 _) (fun hex => if_pos hex) dL_law_417 dL_law_418 dL_law_421 dL_law_423 dL_law_428 dL_law_430 dL_law_433 dL_law_434 dL_law_435 dL_law_436 dL_law_438 dL_law_441 dL_law_442 dL_law_445 dL_law_446 dL_law_447 dL_law_452 (by decide) (fun H locs ls hI hS hl => W.widen (Nat.add_le_add_left (c1_le _) _) (Nat.add_le_add_left (c6_le _) _) (kk H locs ls ?_))
  rcases (s_isLive R (xs (i + 1).toNatClampNeg)) with ⟨hex, hm, hg⟩ | ⟨E, hex, -, hm⟩
  · rw [if_pos hex] at hI
    repeat rw [if_pos hm] at hI
    exact inv_mk hI hS hl R
  · rw [if_neg (by rw [hex]; exact Option.some_ne_none _)] at hI
    repeat rw [if_neg hm] at hI
    exact inv_mk hI hS hl R
set_option maxHeartbeats 4000000 in
set_option maxRecDepth 100000 in
theorem lw_c4 (C : CallFix p m c cL_law 8 s args wsL_law RL) (hts : ∀ w ∈ wsL_law, w.before args s = true) (hst : l.stackTraces = false) (hX : lwS b L xs s i) (h : inv s D cy q q' b i H locs ls) (hc : cells + 1 ≤ 1089) (hs : slots + 6 ≤ 8871)
    (kk : ∀ (H : Heap) (locs : List Loc) (ls : Array Slot), inv s D cy q q' b i H locs ls → W p l e room_1 s m args below meth c H locs (cells + 1) (slots + 6) Q (F0 m 2139 ls [])) : W p l e room_1 s m args below meth c H locs cells slots Q (F0 m 455 ls []) := by
  obtain ⟨nk, nb, nm, A, S, B, T, f, g, R, hI, hS, hl⟩ := h
  have hx := C.1
  have hb := C.2.1
  refine lv_aload_n hx hb dL_law_455 rfl (lv_at hl 2 rfl) ?_
  refine r_arg C hX hS (lv_at hl 0 rfl) (lv_at hl 1 rfl) (by decide) hX.2.2.2.1 dL_law_456 dL_law_457 dL_law_459 dL_law_460 dL_law_461 ?_
  refine r_arg C hX hS (lv_at hl 0 rfl) (lv_at hl 1 rfl) (by decide) hX.2.2.2.2.1 dL_law_462 dL_law_463 dL_law_465 dL_law_466 dL_law_467 ?_
  refine lv_aload_n hx hb dL_law_468 rfl (lv_at hl 4 rfl) ?_
  refine wl_i (vx_runSW (As := [.ref (q 0), .int (xs (i + 1).toNatClampNeg), .int (xs (i + 2).toNatClampNeg), .ref (q 19)]) (rest := []) C (c_L_setWeight l hst D cy s.heap.size q A S f g (xs (i + 1).toNatClampNeg) (xs (i + 2).toNatClampNeg)) (vx_cwSW 4 hts gL_law_L_setWeight rfl rfl rfl (by decide +kernel) ⟨Nat.le_of_ble_eq_true rfl, Nat.le_of_ble_eq_true rfl⟩) (IH.left hI).preS rfl rfl hl.1 rfl (lv_room (Nat.le_of_ble_eq_true rfl)) dL_law_469 ⟨Nat.le_trans (Nat.add_le_add_left (c1_le _) _) hc, Nat.le_trans (Nat.add_le_add_left (c6_le _) _) hs⟩) hI hS wO_ite in_O (fun H locs hI hS => ?_)
  refine lv_istore (lv' := (6, .int _) :: lc b q q' i) hx hb dL_law_472 hl (by decide) rfl (fun ls hl => ?_)
  refine lv_aload_n hx hb dL_law_474 rfl (lv_at hl 4 rfl) ?_
  refine r_arg C hX hS (lv_at hl 1 rfl) (lv_at hl 2 rfl) (by decide) hX.2.2.2.1 dL_law_475 dL_law_476 dL_law_478 dL_law_479 dL_law_480 ?_
  refine r_arg C hX hS (lv_at hl 1 rfl) (lv_at hl 2 rfl) (by decide) hX.2.2.2.2.1 dL_law_481 dL_law_482 dL_law_484 dL_law_485 dL_law_486 ?_
  refine wr_i (va_runV (As := [.int (xs (i + 1).toNatClampNeg), .int (xs (i + 2).toNatClampNeg)]) (rest := []) C (c_X4_setWeight l D cy s.heap.size q' B T (xs (i + 1).toNatClampNeg) (xs (i + 2).toNatClampNeg)) (cwV 2 hts gL_law_X4_setWeight rfl rfl rfl (by decide +kernel) ⟨Nat.le_of_ble_eq_true rfl, Nat.le_of_ble_eq_true rfl⟩) ((IH.right hI).preV (k0 := 0) rfl rfl) rfl rfl hl.1 rfl (lv_room (Nat.le_of_ble_eq_true rfl)) dL_law_487 ⟨Nat.le_trans (Nat.add_le_add_left (c1_le _) _) hc, Nat.le_trans (Nat.add_le_add_left (c6_le _) _) hs⟩) hI hS rfl in_M (fun H locs hI hS => ?_)
  refine lv_istore (lv' := (7, .int _) :: (6, .int _) :: lc b q q' i) hx hb dL_law_490 hl (by decide) rfl (fun ls hl => ?_)
  refine tail_i C hts hI hS (by first | rfl | (split <;> first | rfl | (rename_i h9; exact h9.symm))) hl (Nat.le_trans (Nat.add_le_add_left (c1_le _) _) hc) (Nat.le_trans (Nat.add_le_add_left (c6_le _) _) hs) (s_setWeight R (xs (i + 1).toNatClampNeg) (xs (i + 2).toNatClampNeg)) (fun hex hm hg => (if_pos hm).trans hg.1.symm) (fun hex => if_pos hex) dL_law_492 dL_law_493 dL_law_496 dL_law_498 dL_law_503 dL_law_505 dL_law_508 dL_law_509 dL_law_510 dL_law_511 dL_law_513 dL_law_514 dL_law_515 dL_law_520 (by decide) (fun H locs ls hI hS hl => W.widen (Nat.add_le_add_left (c1_le _) _) (Nat.add_le_add_left (c6_le _) _) (kk H locs ls ?_))
  rcases (s_setWeight R (xs (i + 1).toNatClampNeg) (xs (i + 2).toNatClampNeg)) with ⟨hex, hm, hg⟩ | ⟨E, hex, -, hm⟩
  · rw [if_pos hex] at hI
    repeat rw [if_pos hm] at hI
    exact inv_mk hI hS hl hg.2
  · rw [if_neg (by rw [hex]; exact Option.some_ne_none _)] at hI
    repeat rw [if_neg hm] at hI
    exact inv_mk hI hS hl R
set_option maxHeartbeats 4000000 in
set_option maxRecDepth 100000 in
theorem lw_c5 (C : CallFix p m c cL_law 8 s args wsL_law RL) (hts : ∀ w ∈ wsL_law, w.before args s = true) (hst : l.stackTraces = false) (hX : lwS b L xs s i) (h : inv s D cy q q' b i H locs ls) (hc : cells + 1 ≤ 1089) (hs : slots + 6 ≤ 8871)
    (kk : ∀ (H : Heap) (locs : List Loc) (ls : Array Slot), inv s D cy q q' b i H locs ls → W p l e room_1 s m args below meth c H locs (cells + 1) (slots + 6) Q (F0 m 2139 ls [])) : W p l e room_1 s m args below meth c H locs cells slots Q (F0 m 523 ls []) := by
  obtain ⟨nk, nb, nm, A, S, B, T, f, g, R, hI, hS, hl⟩ := h
  have hx := C.1
  have hb := C.2.1
  refine lv_aload_n hx hb dL_law_523 rfl (lv_at hl 2 rfl) ?_
  refine r_arg C hX hS (lv_at hl 0 rfl) (lv_at hl 1 rfl) (by decide) hX.2.2.2.1 dL_law_524 dL_law_525 dL_law_527 dL_law_528 dL_law_529 ?_
  refine r_arg C hX hS (lv_at hl 0 rfl) (lv_at hl 1 rfl) (by decide) hX.2.2.2.2.1 dL_law_530 dL_law_531 dL_law_533 dL_law_534 dL_law_535 ?_
  refine lv_aload_n hx hb dL_law_536 rfl (lv_at hl 4 rfl) ?_
  refine wl_i (vx_runSW (As := [.ref (q 0), .int (xs (i + 1).toNatClampNeg), .int (xs (i + 2).toNatClampNeg), .ref (q 19)]) (rest := []) C (c_L_setThreshold l hst D cy s.heap.size q A S f g (xs (i + 1).toNatClampNeg) (xs (i + 2).toNatClampNeg)) (vx_cwSW 4 hts gL_law_L_setThreshold rfl rfl rfl (by decide +kernel) ⟨Nat.le_of_ble_eq_true rfl, Nat.le_of_ble_eq_true rfl⟩) (IH.left hI).preS rfl rfl hl.1 rfl (lv_room (Nat.le_of_ble_eq_true rfl)) dL_law_537 ⟨Nat.le_trans (Nat.add_le_add_left (c1_le _) _) hc, Nat.le_trans (Nat.add_le_add_left (c6_le _) _) hs⟩) hI hS wO_ite in_O (fun H locs hI hS => ?_)
  refine lv_istore (lv' := (6, .int _) :: lc b q q' i) hx hb dL_law_540 hl (by decide) rfl (fun ls hl => ?_)
  refine lv_aload_n hx hb dL_law_542 rfl (lv_at hl 4 rfl) ?_
  refine r_arg C hX hS (lv_at hl 1 rfl) (lv_at hl 2 rfl) (by decide) hX.2.2.2.1 dL_law_543 dL_law_544 dL_law_546 dL_law_547 dL_law_548 ?_
  refine r_arg C hX hS (lv_at hl 1 rfl) (lv_at hl 2 rfl) (by decide) hX.2.2.2.2.1 dL_law_549 dL_law_550 dL_law_552 dL_law_553 dL_law_554 ?_
  refine wr_i (va_runV (As := [.int (xs (i + 1).toNatClampNeg), .int (xs (i + 2).toNatClampNeg)]) (rest := []) C (c_X4_setThreshold l D cy s.heap.size q' B T (xs (i + 1).toNatClampNeg) (xs (i + 2).toNatClampNeg)) (cwV 2 hts gL_law_X4_setThreshold rfl rfl rfl (by decide +kernel) ⟨Nat.le_of_ble_eq_true rfl, Nat.le_of_ble_eq_true rfl⟩) ((IH.right hI).preV (k0 := 0) rfl rfl) rfl rfl hl.1 rfl (lv_room (Nat.le_of_ble_eq_true rfl)) dL_law_555 ⟨Nat.le_trans (Nat.add_le_add_left (c1_le _) _) hc, Nat.le_trans (Nat.add_le_add_left (c6_le _) _) hs⟩) hI hS rfl in_M (fun H locs hI hS => ?_)
  refine lv_istore (lv' := (7, .int _) :: (6, .int _) :: lc b q q' i) hx hb dL_law_558 hl (by decide) rfl (fun ls hl => ?_)
  refine tail_i C hts hI hS (by first | rfl | (split <;> first | rfl | (rename_i h9; exact h9.symm))) hl (Nat.le_trans (Nat.add_le_add_left (c1_le _) _) hc) (Nat.le_trans (Nat.add_le_add_left (c6_le _) _) hs) (s_setThreshold R (xs (i + 1).toNatClampNeg) (xs (i + 2).toNatClampNeg)) (fun hex hm hg => (if_pos hm).trans hg.1.symm) (fun hex => if_pos hex) dL_law_560 dL_law_561 dL_law_564 dL_law_566 dL_law_571 dL_law_573 dL_law_576 dL_law_577 dL_law_578 dL_law_579 dL_law_581 dL_law_582 dL_law_583 dL_law_588 (by decide) (fun H locs ls hI hS hl => W.widen (Nat.add_le_add_left (c1_le _) _) (Nat.add_le_add_left (c6_le _) _) (kk H locs ls ?_))
  rcases (s_setThreshold R (xs (i + 1).toNatClampNeg) (xs (i + 2).toNatClampNeg)) with ⟨hex, hm, hg⟩ | ⟨E, hex, -, hm⟩
  · rw [if_pos hex] at hI
    repeat rw [if_pos hm] at hI
    exact inv_mk hI hS hl hg.2
  · rw [if_neg (by rw [hex]; exact Option.some_ne_none _)] at hI
    repeat rw [if_neg hm] at hI
    exact inv_mk hI hS hl R
end CASES0
