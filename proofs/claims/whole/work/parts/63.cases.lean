/-! The law's cases 18 to 23. Rows by wip/whole/gen/part60.py. -/
section CASES3
variable {p : Program} {l : Launch} {e : Env} {s : State} {m : MethodId} {args : Array Value} {below : List Frame} {meth : Method} {c : Code} {H : Heap} {locs : List Loc} {cells slots : Nat} {Q : State → Prop}
variable {ls : Array Slot} {D : va_G} {cy : Nat → ClassId} {b L : Nat} {xs : Nat → Int32} {i : Int32} {q q' : Nat → Nat}
set_option maxHeartbeats 4000000 in
set_option maxRecDepth 100000 in
theorem lw_c18 (C : CallFix p m c cL_law 8 s args wsL_law RL) (hts : ∀ w ∈ wsL_law, w.before args s = true) (hst : l.stackTraces = false) (hX : lwS b L xs s i) (h : inv s D cy q q' b i H locs ls) (hc : cells + 1 ≤ 1089) (hs : slots + 6 ≤ 8871)
    (kk : ∀ (H : Heap) (locs : List Loc) (ls : Array Slot), inv s D cy q q' b i H locs ls → W p l e room_1 s m args below meth c H locs (cells + 1) (slots + 6) Q (F0 m 2139 ls [])) : W p l e room_1 s m args below meth c H locs cells slots Q (F0 m 1385 ls []) := by
  obtain ⟨nk, nb, nm, A, S, B, T, f, g, R, hI, hS, hl⟩ := h
  have hx := C.1
  have hb := C.2.1
  refine lv_aload_n hx hb dL_law_1385 rfl (lv_at hl 2 rfl) ?_
  refine r_arg C hX hS (lv_at hl 0 rfl) (lv_at hl 1 rfl) (by decide) hX.2.2.2.1 dL_law_1386 dL_law_1387 dL_law_1389 dL_law_1390 dL_law_1391 ?_
  refine lv_aload_n hx hb dL_law_1392 rfl (lv_at hl 4 rfl) ?_
  refine wl_i (vx_runSW (As := [.ref (q 0), .int (xs (i + 1).toNatClampNeg), .ref (q 19)]) (rest := []) C (c_L_hangsOnKey l hst D cy s.heap.size q A S f g (xs (i + 1).toNatClampNeg) nk R.1.1 R.1.2.1 nb R.2.2.1.1.1 R.2.2.1.1.2.1 R.2.2.1.2.2.2.1) (vx_cwSW 3 hts gL_law_L_hangsOnKey rfl rfl rfl (by decide +kernel) ⟨Nat.le_of_ble_eq_true rfl, Nat.le_of_ble_eq_true rfl⟩) (IH.left hI).preS rfl rfl hl.1 rfl (lv_room (Nat.le_of_ble_eq_true rfl)) dL_law_1393 ⟨Nat.le_trans (Nat.add_le_add_left (c1_le _) _) hc, Nat.le_trans (Nat.add_le_add_left (c6_le _) _) hs⟩) hI hS wO_ite in_O (fun H locs hI hS => ?_)
  refine lv_istore (lv' := (6, .int _) :: lc b q q' i) hx hb dL_law_1396 hl (by decide) rfl (fun ls hl => ?_)
  refine lv_aload_n hx hb dL_law_1398 rfl (lv_at hl 4 rfl) ?_
  refine r_arg C hX hS (lv_at hl 1 rfl) (lv_at hl 2 rfl) (by decide) hX.2.2.2.1 dL_law_1399 dL_law_1400 dL_law_1402 dL_law_1403 dL_law_1404 ?_
  refine wr_i (va_runV (As := [.int (xs (i + 1).toNatClampNeg)]) (rest := []) C (c_X4_hangsOnKey l D cy s.heap.size q' B T (xs (i + 1).toNatClampNeg) nk R.1.1 R.1.2.2.1 nb R.2.2.1.1.1 R.2.2.1.1.2.2 (lw_tn R)) (cwV 1 hts gL_law_X4_hangsOnKey rfl rfl rfl (by decide +kernel) ⟨Nat.le_of_ble_eq_true rfl, Nat.le_of_ble_eq_true rfl⟩) ((IH.right hI).preV (k0 := 0) rfl rfl) rfl rfl hl.1 rfl (lv_room (Nat.le_of_ble_eq_true rfl)) dL_law_1405 ⟨Nat.le_trans (Nat.add_le_add_left (c1_le _) _) hc, Nat.le_trans (Nat.add_le_add_left (c6_le _) _) hs⟩) hI hS rfl in_M (fun H locs hI hS => ?_)
  refine lv_istore (lv' := (7, .int _) :: (6, .int _) :: lc b q q' i) hx hb dL_law_1408 hl (by decide) rfl (fun ls hl => ?_)
  refine tail_i C hts hI hS (by first | rfl | (split <;> first | rfl | (rename_i h9; exact h9.symm))) hl (Nat.le_trans (Nat.add_le_add_left (c1_le _) _) hc) (Nat.le_trans (Nat.add_le_add_left (c6_le _) _) hs) (s_hangsOnKey R (xs (i + 1).toNatClampNeg)) (fun hex hm hg => (if_pos hm).trans hg.symm) (fun hex => if_pos hex) dL_law_1410 dL_law_1411 dL_law_1414 dL_law_1416 dL_law_1421 dL_law_1423 dL_law_1426 dL_law_1427 dL_law_1428 dL_law_1429 dL_law_1431 dL_law_1432 dL_law_1433 dL_law_1438 (by decide) (fun H locs ls hI hS hl => W.widen (Nat.add_le_add_left (c1_le _) _) (Nat.add_le_add_left (c6_le _) _) (kk H locs ls ?_))
  rcases (s_hangsOnKey R (xs (i + 1).toNatClampNeg)) with ⟨hex, hm, hg⟩ | ⟨E, hex, -, hm⟩
  · rw [if_pos hex] at hI
    repeat rw [if_pos hm] at hI
    exact inv_mk hI hS hl R
  · rw [if_neg (by rw [hex]; exact Option.some_ne_none _)] at hI
    repeat rw [if_neg hm] at hI
    exact inv_mk hI hS hl R
set_option maxHeartbeats 4000000 in
set_option maxRecDepth 100000 in
theorem lw_c19 (C : CallFix p m c cL_law 8 s args wsL_law RL) (hts : ∀ w ∈ wsL_law, w.before args s = true) (hst : l.stackTraces = false) (hX : lwS b L xs s i) (h : inv s D cy q q' b i H locs ls) (hc : cells + 1 ≤ 1089) (hs : slots + 6 ≤ 8871)
    (kk : ∀ (H : Heap) (locs : List Loc) (ls : Array Slot), inv s D cy q q' b i H locs ls → W p l e room_1 s m args below meth c H locs (cells + 1) (slots + 6) Q (F0 m 2139 ls [])) : W p l e room_1 s m args below meth c H locs cells slots Q (F0 m 1441 ls []) := by
  obtain ⟨nk, nb, nm, A, S, B, T, f, g, R, hI, hS, hl⟩ := h
  have hx := C.1
  have hb := C.2.1
  refine lv_aload_n hx hb dL_law_1441 rfl (lv_at hl 2 rfl) ?_
  refine r_arg C hX hS (lv_at hl 0 rfl) (lv_at hl 1 rfl) (by decide) hX.2.2.2.1 dL_law_1442 dL_law_1443 dL_law_1445 dL_law_1446 dL_law_1447 ?_
  refine lv_aload_n hx hb dL_law_1448 rfl (lv_at hl 4 rfl) ?_
  refine wl_i (vx_runSW (As := [.ref (q 0), .int (xs (i + 1).toNatClampNeg), .ref (q 19)]) (rest := []) C (c_L_recall l hst D cy s.heap.size q A S f g (xs (i + 1).toNatClampNeg) nb R.2.2.1.1.1 R.2.2.1.1.2.1) (vx_cwSW 3 hts gL_law_L_recall rfl rfl rfl (by decide +kernel) ⟨Nat.le_of_ble_eq_true rfl, Nat.le_of_ble_eq_true rfl⟩) (IH.left hI).preS rfl rfl hl.1 rfl (lv_room (Nat.le_of_ble_eq_true rfl)) dL_law_1449 ⟨Nat.le_trans (Nat.add_le_add_left (c1_le _) _) hc, Nat.le_trans (Nat.add_le_add_left (c6_le _) _) hs⟩) hI hS wO_ite in_O (fun H locs hI hS => ?_)
  refine lv_istore (lv' := (6, .int _) :: lc b q q' i) hx hb dL_law_1452 hl (by decide) rfl (fun ls hl => ?_)
  refine lv_aload_n hx hb dL_law_1454 rfl (lv_at hl 4 rfl) ?_
  refine r_arg C hX hS (lv_at hl 1 rfl) (lv_at hl 2 rfl) (by decide) hX.2.2.2.1 dL_law_1455 dL_law_1456 dL_law_1458 dL_law_1459 dL_law_1460 ?_
  refine wr_i (va_runV (As := [.int (xs (i + 1).toNatClampNeg)]) (rest := []) C (c_X4_recall l D cy s.heap.size q' B T (xs (i + 1).toNatClampNeg) nb R.2.2.1.1.1 R.2.2.1.1.2.2) (cwV 1 hts gL_law_X4_recall rfl rfl rfl (by decide +kernel) ⟨Nat.le_of_ble_eq_true rfl, Nat.le_of_ble_eq_true rfl⟩) ((IH.right hI).preV (k0 := 0) rfl rfl) rfl rfl hl.1 rfl (lv_room (Nat.le_of_ble_eq_true rfl)) dL_law_1461 ⟨Nat.le_trans (Nat.add_le_add_left (c1_le _) _) hc, Nat.le_trans (Nat.add_le_add_left (c6_le _) _) hs⟩) hI hS rfl in_M (fun H locs hI hS => ?_)
  refine lv_istore (lv' := (7, .int _) :: (6, .int _) :: lc b q q' i) hx hb dL_law_1464 hl (by decide) rfl (fun ls hl => ?_)
  refine tail_i C hts hI hS (by first | rfl | (split <;> first | rfl | (rename_i h9; exact h9.symm))) hl (Nat.le_trans (Nat.add_le_add_left (c1_le _) _) hc) (Nat.le_trans (Nat.add_le_add_left (c6_le _) _) hs) (s_recall R (xs (i + 1).toNatClampNeg)) (fun hex hm hg => (if_pos hm).trans hg.1.symm) (fun hex => if_pos hex) dL_law_1466 dL_law_1467 dL_law_1470 dL_law_1472 dL_law_1477 dL_law_1479 dL_law_1482 dL_law_1483 dL_law_1484 dL_law_1485 dL_law_1487 dL_law_1488 dL_law_1489 dL_law_1494 (by decide) (fun H locs ls hI hS hl => W.widen (Nat.add_le_add_left (c1_le _) _) (Nat.add_le_add_left (c6_le _) _) (kk H locs ls ?_))
  rcases (s_recall R (xs (i + 1).toNatClampNeg)) with ⟨hex, hm, hg⟩ | ⟨E, hex, -, hm⟩
  · rw [if_pos hex] at hI
    repeat rw [if_pos hm] at hI
    exact inv_mk hI hS hl hg.2
  · rw [if_neg (by rw [hex]; exact Option.some_ne_none _)] at hI
    repeat rw [if_neg hm] at hI
    exact inv_mk hI hS hl R
set_option maxHeartbeats 4000000 in
set_option maxRecDepth 100000 in
theorem lw_c20 (C : CallFix p m c cL_law 8 s args wsL_law RL) (hts : ∀ w ∈ wsL_law, w.before args s = true) (hst : l.stackTraces = false) (hX : lwS b L xs s i) (h : inv s D cy q q' b i H locs ls) (hc : cells + 1 ≤ 1089) (hs : slots + 6 ≤ 8871)
    (kk : ∀ (H : Heap) (locs : List Loc) (ls : Array Slot), inv s D cy q q' b i H locs ls → W p l e room_1 s m args below meth c H locs (cells + 1) (slots + 6) Q (F0 m 2139 ls [])) : W p l e room_1 s m args below meth c H locs cells slots Q (F0 m 1497 ls []) := by
  obtain ⟨nk, nb, nm, A, S, B, T, f, g, R, hI, hS, hl⟩ := h
  have hx := C.1
  have hb := C.2.1
  refine lv_aload_n hx hb dL_law_1497 rfl (lv_at hl 2 rfl) ?_
  refine r_arg C hX hS (lv_at hl 0 rfl) (lv_at hl 1 rfl) (by decide) hX.2.2.2.1 dL_law_1498 dL_law_1499 dL_law_1501 dL_law_1502 dL_law_1503 ?_
  refine lv_aload_n hx hb dL_law_1504 rfl (lv_at hl 4 rfl) ?_
  refine wl_i (vx_runSW (As := [.ref (q 0), .int (xs (i + 1).toNatClampNeg), .ref (q 19)]) (rest := []) C (c_L_lift l hst D cy s.heap.size q A S f g (xs (i + 1).toNatClampNeg) nb R.2.2.1.1.1 R.2.2.1.1.2.1) (vx_cwSW 3 hts gL_law_L_lift rfl rfl rfl (by decide +kernel) ⟨Nat.le_of_ble_eq_true rfl, Nat.le_of_ble_eq_true rfl⟩) (IH.left hI).preS rfl rfl hl.1 rfl (lv_room (Nat.le_of_ble_eq_true rfl)) dL_law_1505 ⟨Nat.le_trans (Nat.add_le_add_left (c1_le _) _) hc, Nat.le_trans (Nat.add_le_add_left (c6_le _) _) hs⟩) hI hS wO_ite in_O (fun H locs hI hS => ?_)
  refine lv_istore (lv' := (6, .int _) :: lc b q q' i) hx hb dL_law_1508 hl (by decide) rfl (fun ls hl => ?_)
  refine lv_aload_n hx hb dL_law_1510 rfl (lv_at hl 4 rfl) ?_
  refine r_arg C hX hS (lv_at hl 1 rfl) (lv_at hl 2 rfl) (by decide) hX.2.2.2.1 dL_law_1511 dL_law_1512 dL_law_1514 dL_law_1515 dL_law_1516 ?_
  refine wr_i (va_runV (As := [.int (xs (i + 1).toNatClampNeg)]) (rest := []) C (c_X4_lift l D cy s.heap.size q' B T (xs (i + 1).toNatClampNeg) nb R.2.2.1.1.1 R.2.2.1.1.2.2) (cwV 1 hts gL_law_X4_lift rfl rfl rfl (by decide +kernel) ⟨Nat.le_of_ble_eq_true rfl, Nat.le_of_ble_eq_true rfl⟩) ((IH.right hI).preV (k0 := 0) rfl rfl) rfl rfl hl.1 rfl (lv_room (Nat.le_of_ble_eq_true rfl)) dL_law_1517 ⟨Nat.le_trans (Nat.add_le_add_left (c1_le _) _) hc, Nat.le_trans (Nat.add_le_add_left (c6_le _) _) hs⟩) hI hS rfl in_M (fun H locs hI hS => ?_)
  refine lv_istore (lv' := (7, .int _) :: (6, .int _) :: lc b q q' i) hx hb dL_law_1520 hl (by decide) rfl (fun ls hl => ?_)
  refine tail_i C hts hI hS (by first | rfl | (split <;> first | rfl | (rename_i h9; exact h9.symm))) hl (Nat.le_trans (Nat.add_le_add_left (c1_le _) _) hc) (Nat.le_trans (Nat.add_le_add_left (c6_le _) _) hs) (s_lift R (xs (i + 1).toNatClampNeg)) (fun hex hm hg => (if_pos hm).trans hg.1.symm) (fun hex => if_pos hex) dL_law_1522 dL_law_1523 dL_law_1526 dL_law_1528 dL_law_1533 dL_law_1535 dL_law_1538 dL_law_1539 dL_law_1540 dL_law_1541 dL_law_1543 dL_law_1544 dL_law_1545 dL_law_1550 (by decide) (fun H locs ls hI hS hl => W.widen (Nat.add_le_add_left (c1_le _) _) (Nat.add_le_add_left (c6_le _) _) (kk H locs ls ?_))
  rcases (s_lift R (xs (i + 1).toNatClampNeg)) with ⟨hex, hm, hg⟩ | ⟨E, hex, -, hm⟩
  · rw [if_pos hex] at hI
    repeat rw [if_pos hm] at hI
    exact inv_mk hI hS hl hg.2
  · rw [if_neg (by rw [hex]; exact Option.some_ne_none _)] at hI
    repeat rw [if_neg hm] at hI
    exact inv_mk hI hS hl R
set_option maxHeartbeats 4000000 in
set_option maxRecDepth 100000 in
theorem lw_c21 (C : CallFix p m c cL_law 8 s args wsL_law RL) (hts : ∀ w ∈ wsL_law, w.before args s = true) (hst : l.stackTraces = false) (hX : lwS b L xs s i) (h : inv s D cy q q' b i H locs ls) (hc : cells + 1 ≤ 1089) (hs : slots + 6 ≤ 8871)
    (kk : ∀ (H : Heap) (locs : List Loc) (ls : Array Slot), inv s D cy q q' b i H locs ls → W p l e room_1 s m args below meth c H locs (cells + 1) (slots + 6) Q (F0 m 2139 ls [])) : W p l e room_1 s m args below meth c H locs cells slots Q (F0 m 1553 ls []) := by
  obtain ⟨nk, nb, nm, A, S, B, T, f, g, R, hI, hS, hl⟩ := h
  have hx := C.1
  have hb := C.2.1
  refine lv_aload_n hx hb dL_law_1553 rfl (lv_at hl 2 rfl) ?_
  refine r_arg C hX hS (lv_at hl 0 rfl) (lv_at hl 1 rfl) (by decide) hX.2.2.2.1 dL_law_1554 dL_law_1555 dL_law_1557 dL_law_1558 dL_law_1559 ?_
  refine lv_aload_n hx hb dL_law_1560 rfl (lv_at hl 4 rfl) ?_
  refine wl_i (vx_runSW (As := [.ref (q 0), .int (xs (i + 1).toNatClampNeg), .ref (q 19)]) (rest := []) C (c_L_isRecalled l hst D cy s.heap.size q A S f g (xs (i + 1).toNatClampNeg) nb R.2.2.1.1.1 R.2.2.1.1.2.1) (vx_cwSW 3 hts gL_law_L_isRecalled rfl rfl rfl (by decide +kernel) ⟨Nat.le_of_ble_eq_true rfl, Nat.le_of_ble_eq_true rfl⟩) (IH.left hI).preS rfl rfl hl.1 rfl (lv_room (Nat.le_of_ble_eq_true rfl)) dL_law_1561 ⟨Nat.le_trans (Nat.add_le_add_left (c1_le _) _) hc, Nat.le_trans (Nat.add_le_add_left (c6_le _) _) hs⟩) hI hS wO_ite in_O (fun H locs hI hS => ?_)
  refine lv_istore (lv' := (6, .int _) :: lc b q q' i) hx hb dL_law_1564 hl (by decide) rfl (fun ls hl => ?_)
  refine lv_aload_n hx hb dL_law_1566 rfl (lv_at hl 4 rfl) ?_
  refine r_arg C hX hS (lv_at hl 1 rfl) (lv_at hl 2 rfl) (by decide) hX.2.2.2.1 dL_law_1567 dL_law_1568 dL_law_1570 dL_law_1571 dL_law_1572 ?_
  refine wr_i (va_runV (As := [.int (xs (i + 1).toNatClampNeg)]) (rest := []) C (c_X4_isRecalled l D cy s.heap.size q' B T (xs (i + 1).toNatClampNeg) nb R.2.2.1.1.1 R.2.2.1.1.2.2) (cwV 1 hts gL_law_X4_isRecalled rfl rfl rfl (by decide +kernel) ⟨Nat.le_of_ble_eq_true rfl, Nat.le_of_ble_eq_true rfl⟩) ((IH.right hI).preV (k0 := 0) rfl rfl) rfl rfl hl.1 rfl (lv_room (Nat.le_of_ble_eq_true rfl)) dL_law_1573 ⟨Nat.le_trans (Nat.add_le_add_left (c1_le _) _) hc, Nat.le_trans (Nat.add_le_add_left (c6_le _) _) hs⟩) hI hS rfl in_M (fun H locs hI hS => ?_)
  refine lv_istore (lv' := (7, .int _) :: (6, .int _) :: lc b q q' i) hx hb dL_law_1576 hl (by decide) rfl (fun ls hl => ?_)
  refine tail_b C hts hI hS (by first | rfl | (split <;> first | rfl | (rename_i h9; exact h9.symm))) hl (Nat.le_trans (Nat.add_le_add_left (c1_le _) _) hc) (Nat.le_trans (Nat.add_le_add_left (c6_le _) _) hs) (s_isRecalled R (xs (i + 1).toNatClampNeg)) (fun hex hm hg => hg.symm) (bI_01 _) (fun hex => if_pos hex) dL_law_1578 dL_law_1579 dL_law_1582 dL_law_1584 dL_law_1589 dL_law_1591 dL_law_1594 dL_law_1595 dL_law_1596 dL_law_1597 dL_law_1599 dL_law_1602 dL_law_1603 dL_law_1606 dL_law_1607 dL_law_1608 dL_law_1613 (by decide) (fun H locs ls hI hS hl => W.widen (Nat.add_le_add_left (c1_le _) _) (Nat.add_le_add_left (c6_le _) _) (kk H locs ls ?_))
  rcases (s_isRecalled R (xs (i + 1).toNatClampNeg)) with ⟨hex, hm, hg⟩ | ⟨E, hex, -, hm⟩
  · rw [if_pos hex] at hI
    repeat rw [if_pos hm] at hI
    exact inv_mk hI hS hl R
  · rw [if_neg (by rw [hex]; exact Option.some_ne_none _)] at hI
    repeat rw [if_neg hm] at hI
    exact inv_mk hI hS hl R
set_option maxHeartbeats 4000000 in
set_option maxRecDepth 100000 in
theorem lw_c22 (C : CallFix p m c cL_law 8 s args wsL_law RL) (hts : ∀ w ∈ wsL_law, w.before args s = true) (hst : l.stackTraces = false) (hX : lwS b L xs s i) (h : inv s D cy q q' b i H locs ls) (hc : cells + 1 ≤ 1089) (hs : slots + 6 ≤ 8871)
    (kk : ∀ (H : Heap) (locs : List Loc) (ls : Array Slot), inv s D cy q q' b i H locs ls → W p l e room_1 s m args below meth c H locs (cells + 1) (slots + 6) Q (F0 m 2139 ls [])) : W p l e room_1 s m args below meth c H locs cells slots Q (F0 m 1616 ls []) := by
  obtain ⟨nk, nb, nm, A, S, B, T, f, g, R, hI, hS, hl⟩ := h
  have hx := C.1
  have hb := C.2.1
  refine lv_aload_n hx hb dL_law_1616 rfl (lv_at hl 2 rfl) ?_
  refine r_arg C hX hS (lv_at hl 0 rfl) (lv_at hl 1 rfl) (by decide) hX.2.2.2.1 dL_law_1617 dL_law_1618 dL_law_1620 dL_law_1621 dL_law_1622 ?_
  refine r_arg C hX hS (lv_at hl 0 rfl) (lv_at hl 1 rfl) (by decide) hX.2.2.2.2.1 dL_law_1623 dL_law_1624 dL_law_1626 dL_law_1627 dL_law_1628 ?_
  refine lv_aload_n hx hb dL_law_1629 rfl (lv_at hl 4 rfl) ?_
  refine wl_i (vx_runSW (As := [.ref (q 0), .int (xs (i + 1).toNatClampNeg), .int (xs (i + 2).toNatClampNeg), .ref (q 19)]) (rest := []) C (c_L_rebuild l hst D cy s.heap.size q A S f g (xs (i + 1).toNatClampNeg) (xs (i + 2).toNatClampNeg) nb R.2.2.1.1.1 R.2.2.1.1.2.1) (vx_cwSW 4 hts gL_law_L_rebuild rfl rfl rfl (by decide +kernel) ⟨Nat.le_of_ble_eq_true rfl, Nat.le_of_ble_eq_true rfl⟩) (IH.left hI).preS rfl rfl hl.1 rfl (lv_room (Nat.le_of_ble_eq_true rfl)) dL_law_1630 ⟨Nat.le_trans (Nat.add_le_add_left (c1_le _) _) hc, Nat.le_trans (Nat.add_le_add_left (c6_le _) _) hs⟩) hI hS wO_ite in_O (fun H locs hI hS => ?_)
  refine lv_istore (lv' := (6, .int _) :: lc b q q' i) hx hb dL_law_1633 hl (by decide) rfl (fun ls hl => ?_)
  refine lv_aload_n hx hb dL_law_1635 rfl (lv_at hl 4 rfl) ?_
  refine r_arg C hX hS (lv_at hl 1 rfl) (lv_at hl 2 rfl) (by decide) hX.2.2.2.1 dL_law_1636 dL_law_1637 dL_law_1639 dL_law_1640 dL_law_1641 ?_
  refine r_arg C hX hS (lv_at hl 1 rfl) (lv_at hl 2 rfl) (by decide) hX.2.2.2.2.1 dL_law_1642 dL_law_1643 dL_law_1645 dL_law_1646 dL_law_1647 ?_
  refine wr_i (va_runV (As := [.int (xs (i + 1).toNatClampNeg), .int (xs (i + 2).toNatClampNeg)]) (rest := []) C (c_X4_rebuild l D cy s.heap.size q' B T (xs (i + 1).toNatClampNeg) (xs (i + 2).toNatClampNeg) nb R.2.2.1.1.1 R.2.2.1.1.2.2) (cwV 2 hts gL_law_X4_rebuild rfl rfl rfl (by decide +kernel) ⟨Nat.le_of_ble_eq_true rfl, Nat.le_of_ble_eq_true rfl⟩) ((IH.right hI).preV (k0 := 0) rfl rfl) rfl rfl hl.1 rfl (lv_room (Nat.le_of_ble_eq_true rfl)) dL_law_1648 ⟨Nat.le_trans (Nat.add_le_add_left (c1_le _) _) hc, Nat.le_trans (Nat.add_le_add_left (c6_le _) _) hs⟩) hI hS rfl in_M (fun H locs hI hS => ?_)
  refine lv_istore (lv' := (7, .int _) :: (6, .int _) :: lc b q q' i) hx hb dL_law_1651 hl (by decide) rfl (fun ls hl => ?_)
  refine tail_b C hts hI hS (by first | rfl | (split <;> first | rfl | (rename_i h9; exact h9.symm))) hl (Nat.le_trans (Nat.add_le_add_left (c1_le _) _) hc) (Nat.le_trans (Nat.add_le_add_left (c6_le _) _) hs) (s_rebuild R (xs (i + 1).toNatClampNeg) (xs (i + 2).toNatClampNeg)) (fun hex hm hg => (if_pos hm).trans hg.1.symm) (bI_01 _) (fun hex => if_pos hex) dL_law_1653 dL_law_1654 dL_law_1657 dL_law_1659 dL_law_1664 dL_law_1666 dL_law_1669 dL_law_1670 dL_law_1671 dL_law_1672 dL_law_1674 dL_law_1677 dL_law_1678 dL_law_1681 dL_law_1682 dL_law_1683 dL_law_1688 (by decide) (fun H locs ls hI hS hl => W.widen (Nat.add_le_add_left (c1_le _) _) (Nat.add_le_add_left (c6_le _) _) (kk H locs ls ?_))
  rcases (s_rebuild R (xs (i + 1).toNatClampNeg) (xs (i + 2).toNatClampNeg)) with ⟨hex, hm, hg⟩ | ⟨E, hex, -, hm⟩
  · rw [if_pos hex] at hI
    repeat rw [if_pos hm] at hI
    exact inv_mk hI hS hl hg.2
  · rw [if_neg (by rw [hex]; exact Option.some_ne_none _)] at hI
    repeat rw [if_neg hm] at hI
    exact inv_mk hI hS hl R
set_option maxHeartbeats 4000000 in
set_option maxRecDepth 100000 in
theorem lw_c23 (C : CallFix p m c cL_law 8 s args wsL_law RL) (hts : ∀ w ∈ wsL_law, w.before args s = true) (hst : l.stackTraces = false) (hX : lwS b L xs s i) (h : inv s D cy q q' b i H locs ls) (hc : cells + 1 ≤ 1089) (hs : slots + 6 ≤ 8871)
    (kk : ∀ (H : Heap) (locs : List Loc) (ls : Array Slot), inv s D cy q q' b i H locs ls → W p l e room_1 s m args below meth c H locs (cells + 1) (slots + 6) Q (F0 m 2139 ls [])) : W p l e room_1 s m args below meth c H locs cells slots Q (F0 m 1691 ls []) := by
  obtain ⟨nk, nb, nm, A, S, B, T, f, g, R, hI, hS, hl⟩ := h
  have hx := C.1
  have hb := C.2.1
  refine lv_aload_n hx hb dL_law_1691 rfl (lv_at hl 2 rfl) ?_
  refine r_arg C hX hS (lv_at hl 0 rfl) (lv_at hl 1 rfl) (by decide) hX.2.2.2.1 dL_law_1692 dL_law_1693 dL_law_1695 dL_law_1696 dL_law_1697 ?_
  refine lv_aload hx hb dL_law_1698 (lv_at hl 5 rfl) ?_
  refine wl_i (vx_runSW (As := [.ref (q 0), .int (xs (i + 1).toNatClampNeg), .ref (q 20)]) (rest := []) C (c_L_share l hst D cy s.heap.size q A S f g (xs (i + 1).toNatClampNeg) nb R.2.2.1.1.1 R.2.2.1.1.2.1) (vx_cwSW 3 hts gL_law_L_share rfl rfl rfl (by decide +kernel) ⟨Nat.le_of_ble_eq_true rfl, Nat.le_of_ble_eq_true rfl⟩) (IH.left hI).preS rfl rfl hl.1 rfl (lv_room (Nat.le_of_ble_eq_true rfl)) dL_law_1700 ⟨Nat.le_trans (Nat.add_le_add_left (c1_le _) _) hc, Nat.le_trans (Nat.add_le_add_left (c6_le _) _) hs⟩) hI hS wO_ite in_O (fun H locs hI hS => ?_)
  refine lv_istore (lv' := (6, .int _) :: lc b q q' i) hx hb dL_law_1703 hl (by decide) rfl (fun ls hl => ?_)
  refine lv_aload_n hx hb dL_law_1705 rfl (lv_at hl 4 rfl) ?_
  refine r_arg C hX hS (lv_at hl 1 rfl) (lv_at hl 2 rfl) (by decide) hX.2.2.2.1 dL_law_1706 dL_law_1707 dL_law_1709 dL_law_1710 dL_law_1711 ?_
  refine wr_f (va_runV (As := [.int (xs (i + 1).toNatClampNeg)]) (rest := []) C (c_X4_share l D cy s.heap.size q' B T (xs (i + 1).toNatClampNeg) nb R.2.2.1.1.1 R.2.2.1.1.2.2) (cwV 1 hts gL_law_X4_share rfl rfl rfl (by decide +kernel) ⟨Nat.le_of_ble_eq_true rfl, Nat.le_of_ble_eq_true rfl⟩) ((IH.right hI).preV (k0 := 0) rfl rfl) rfl rfl hl.1 rfl (lv_room (Nat.le_of_ble_eq_true rfl)) dL_law_1712 ⟨Nat.le_trans (Nat.add_le_add_left (c1_le _) _) hc, Nat.le_trans (Nat.add_le_add_left (c6_le _) _) hs⟩) hI hS rfl in_M (fun H locs hI hS => ?_)
  refine lv_fstore (lv' := (7, .float _) :: (6, .int _) :: lc b q q' i) hx hb dL_law_1715 hl (by decide) rfl (fun ls hl => ?_)
  refine tail_f C hts hI hS (by first | rfl | (split <;> first | rfl | (rename_i h9; exact h9.symm))) hl (Nat.le_trans (Nat.add_le_add_left (c1_le _) _) hc) (Nat.le_trans (Nat.add_le_add_left (c6_le _) _) hs) (s_share R (xs (i + 1).toNatClampNeg)) (fun hex hm hg => ⟨(if_pos hm).trans hg.2.symm, sh_nn hg.1⟩) (fun hex => if_pos hex) dL_law_1717 dL_law_1718 dL_law_1721 dL_law_1723 dL_law_1728 dL_law_1730 dL_law_1733 dL_law_1735 dL_law_1736 dL_law_1737 dL_law_1739 dL_law_1740 dL_law_1741 dL_law_1766 (by decide) (fun H locs ls hI hS hl => W.widen (Nat.add_le_add_left (c1_le _) _) (Nat.add_le_add_left (c6_le _) _) (kk H locs ls ?_))
  rcases (s_share R (xs (i + 1).toNatClampNeg)) with ⟨hex, hm, hg⟩ | ⟨E, hex, -, hm⟩
  · rw [if_pos hex] at hI
    repeat rw [if_pos hm] at hI
    exact inv_mk hI hS hl R
  · rw [if_neg (by rw [hex]; exact Option.some_ne_none _)] at hI
    repeat rw [if_neg hm] at hI
    exact inv_mk hI hS hl R
end CASES3
