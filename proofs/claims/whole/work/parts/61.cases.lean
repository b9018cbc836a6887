/-! The law's cases 6 to 11. Rows by wip/whole/gen/part60.py. -/
section CASES1
variable {p : Program} {l : Launch} {e : Env} {s : State} {m : MethodId} {args : Array Value} {below : List Frame} {meth : Method} {c : Code} {H : Heap} {locs : List Loc} {cells slots : Nat} {Q : State → Prop}
variable {ls : Array Slot} {D : va_G} {cy : Nat → ClassId} {b L : Nat} {xs : Nat → Int32} {i : Int32} {q q' : Nat → Nat}
set_option maxHeartbeats 4000000 in
set_option maxRecDepth 100000 in
theorem lw_c6 (C : CallFix p m c cL_law 8 s args wsL_law RL) (hts : ∀ w ∈ wsL_law, w.before args s = true) (hst : l.stackTraces = false) (hX : lwS b L xs s i) (h : inv s D cy q q' b i H locs ls) (hc : cells + 1 ≤ 1089) (hs : slots + 6 ≤ 8871)
    (kk : ∀ (H : Heap) (locs : List Loc) (ls : Array Slot), inv s D cy q q' b i H locs ls → W p l e room_1 s m args below meth c H locs (cells + 1) (slots + 6) Q (F0 m 2139 ls [])) : W p l e room_1 s m args below meth c H locs cells slots Q (F0 m 591 ls []) := by
  obtain ⟨nk, nb, nm, A, S, B, T, f, g, R, hI, hS, hl⟩ := h
  have hx := C.1
  have hb := C.2.1
  refine lv_aload_n hx hb dL_law_591 rfl (lv_at hl 2 rfl) ?_
  refine r_arg C hX hS (lv_at hl 0 rfl) (lv_at hl 1 rfl) (by decide) hX.2.2.2.1 dL_law_592 dL_law_593 dL_law_595 dL_law_596 dL_law_597 ?_
  refine r_arg C hX hS (lv_at hl 0 rfl) (lv_at hl 1 rfl) (by decide) hX.2.2.2.2.1 dL_law_598 dL_law_599 dL_law_601 dL_law_602 dL_law_603 ?_
  refine r_arg C hX hS (lv_at hl 0 rfl) (lv_at hl 1 rfl) (by decide) hX.2.2.2.2.2 dL_law_604 dL_law_605 dL_law_607 dL_law_608 dL_law_609 ?_
  refine lv_aload_n hx hb dL_law_610 rfl (lv_at hl 4 rfl) ?_
  refine wl_i (vx_runSW (As := [.ref (q 0), .int (xs (i + 1).toNatClampNeg), .int (xs (i + 2).toNatClampNeg), .int (xs (i + 3).toNatClampNeg), .ref (q 19)]) (rest := []) C (c_L_build l hst D cy s.heap.size q A S f g (xs (i + 1).toNatClampNeg) (xs (i + 2).toNatClampNeg) (xs (i + 3).toNatClampNeg) nb R.2.2.1.1.1 R.2.2.1.1.2.1) (vx_cwSW 5 hts gL_law_L_build rfl rfl rfl (by decide +kernel) ⟨Nat.le_of_ble_eq_true rfl, Nat.le_of_ble_eq_true rfl⟩) (IH.left hI).preS rfl rfl hl.1 rfl (lv_room (Nat.le_of_ble_eq_true rfl)) dL_law_611 ⟨Nat.le_trans (Nat.add_le_add_left (c1_le _) _) hc, Nat.le_trans (Nat.add_le_add_left (c6_le _) _) hs⟩) hI hS wO_ite in_O (fun H locs hI hS => ?_)
  refine lv_istore (lv' := (6, .int _) :: lc b q q' i) hx hb dL_law_614 hl (by decide) rfl (fun ls hl => ?_)
  refine lv_aload_n hx hb dL_law_616 rfl (lv_at hl 4 rfl) ?_
  refine r_arg C hX hS (lv_at hl 1 rfl) (lv_at hl 2 rfl) (by decide) hX.2.2.2.1 dL_law_617 dL_law_618 dL_law_620 dL_law_621 dL_law_622 ?_
  refine r_arg C hX hS (lv_at hl 1 rfl) (lv_at hl 2 rfl) (by decide) hX.2.2.2.2.1 dL_law_623 dL_law_624 dL_law_626 dL_law_627 dL_law_628 ?_
  refine r_arg C hX hS (lv_at hl 1 rfl) (lv_at hl 2 rfl) (by decide) hX.2.2.2.2.2 dL_law_629 dL_law_630 dL_law_632 dL_law_633 dL_law_634 ?_
  refine wr_i (va_runV (As := [.int (xs (i + 1).toNatClampNeg), .int (xs (i + 2).toNatClampNeg), .int (xs (i + 3).toNatClampNeg)]) (rest := []) C (c_X4_build l D cy s.heap.size q' B T (xs (i + 1).toNatClampNeg) (xs (i + 2).toNatClampNeg) (xs (i + 3).toNatClampNeg) nb R.2.2.1.1.1 R.2.2.1.1.2.2) (cwV 3 hts gL_law_X4_build rfl rfl rfl (by decide +kernel) ⟨Nat.le_of_ble_eq_true rfl, Nat.le_of_ble_eq_true rfl⟩) ((IH.right hI).preV (k0 := 0) rfl rfl) rfl rfl hl.1 rfl (lv_room (Nat.le_of_ble_eq_true rfl)) dL_law_635 ⟨Nat.le_trans (Nat.add_le_add_left (c1_le _) _) hc, Nat.le_trans (Nat.add_le_add_left (c6_le _) _) hs⟩) hI hS rfl in_M (fun H locs hI hS => ?_)
  refine lv_istore (lv' := (7, .int _) :: (6, .int _) :: lc b q q' i) hx hb dL_law_638 hl (by decide) rfl (fun ls hl => ?_)
  refine tail_i C hts hI hS (by first | rfl | (split <;> first | rfl | (rename_i h9; exact h9.symm))) hl (Nat.le_trans (Nat.add_le_add_left (c1_le _) _) hc) (Nat.le_trans (Nat.add_le_add_left (c6_le _) _) hs) (s_build R (xs (i + 1).toNatClampNeg) (xs (i + 2).toNatClampNeg) (xs (i + 3).toNatClampNeg)) (fun hex hm hg => (if_pos hm).trans hg.1.symm) (fun hex => if_pos hex) dL_law_640 dL_law_641 dL_law_644 dL_law_646 dL_law_651 dL_law_653 dL_law_656 dL_law_657 dL_law_658 dL_law_659 dL_law_661 dL_law_662 dL_law_663 dL_law_668 (by decide) (fun H locs ls hI hS hl => W.widen (Nat.add_le_add_left (c1_le _) _) (Nat.add_le_add_left (c6_le _) _) (kk H locs ls ?_))
  rcases (s_build R (xs (i + 1).toNatClampNeg) (xs (i + 2).toNatClampNeg) (xs (i + 3).toNatClampNeg)) with ⟨hex, hm, hg⟩ | ⟨E, hex, -, hm⟩
  · rw [if_pos hex] at hI
    repeat rw [if_pos hm] at hI
    exact inv_mk hI hS hl hg.2.2
  · rw [if_neg (by rw [hex]; exact Option.some_ne_none _)] at hI
    repeat rw [if_neg hm] at hI
    exact inv_mk hI hS hl R
set_option maxHeartbeats 4000000 in
set_option maxRecDepth 100000 in
theorem lw_c7 (C : CallFix p m c cL_law 8 s args wsL_law RL) (hts : ∀ w ∈ wsL_law, w.before args s = true) (hst : l.stackTraces = false) (hX : lwS b L xs s i) (h : inv s D cy q q' b i H locs ls) (hc : cells + 1 ≤ 1089) (hs : slots + 6 ≤ 8871)
    (kk : ∀ (H : Heap) (locs : List Loc) (ls : Array Slot), inv s D cy q q' b i H locs ls → W p l e room_1 s m args below meth c H locs (cells + 1) (slots + 6) Q (F0 m 2139 ls [])) : W p l e room_1 s m args below meth c H locs cells slots Q (F0 m 671 ls []) := by
  obtain ⟨nk, nb, nm, A, S, B, T, f, g, R, hI, hS, hl⟩ := h
  have hx := C.1
  have hb := C.2.1
  refine lv_aload_n hx hb dL_law_671 rfl (lv_at hl 2 rfl) ?_
  refine r_arg C hX hS (lv_at hl 0 rfl) (lv_at hl 1 rfl) (by decide) hX.2.2.2.1 dL_law_672 dL_law_673 dL_law_675 dL_law_676 dL_law_677 ?_
  refine lv_aload_n hx hb dL_law_678 rfl (lv_at hl 4 rfl) ?_
  refine wl_i (vx_runSW (As := [.ref (q 0), .int (xs (i + 1).toNatClampNeg), .ref (q 19)]) (rest := []) C (c_L_nameOf l hst D cy s.heap.size q A S f g (xs (i + 1).toNatClampNeg) nb R.2.2.1.1.1 R.2.2.1.1.2.1) (vx_cwSW 3 hts gL_law_L_nameOf rfl rfl rfl (by decide +kernel) ⟨Nat.le_of_ble_eq_true rfl, Nat.le_of_ble_eq_true rfl⟩) (IH.left hI).preS rfl rfl hl.1 rfl (lv_room (Nat.le_of_ble_eq_true rfl)) dL_law_679 ⟨Nat.le_trans (Nat.add_le_add_left (c1_le _) _) hc, Nat.le_trans (Nat.add_le_add_left (c6_le _) _) hs⟩) hI hS wO_ite in_O (fun H locs hI hS => ?_)
  refine lv_istore (lv' := (6, .int _) :: lc b q q' i) hx hb dL_law_682 hl (by decide) rfl (fun ls hl => ?_)
  refine lv_aload_n hx hb dL_law_684 rfl (lv_at hl 4 rfl) ?_
  refine r_arg C hX hS (lv_at hl 1 rfl) (lv_at hl 2 rfl) (by decide) hX.2.2.2.1 dL_law_685 dL_law_686 dL_law_688 dL_law_689 dL_law_690 ?_
  refine wr_i (va_runV (As := [.int (xs (i + 1).toNatClampNeg)]) (rest := []) C (c_X4_nameOf l D cy s.heap.size q' B T (xs (i + 1).toNatClampNeg) nb R.2.2.1.1.1 R.2.2.1.1.2.2) (cwV 1 hts gL_law_X4_nameOf rfl rfl rfl (by decide +kernel) ⟨Nat.le_of_ble_eq_true rfl, Nat.le_of_ble_eq_true rfl⟩) ((IH.right hI).preV (k0 := 0) rfl rfl) rfl rfl hl.1 rfl (lv_room (Nat.le_of_ble_eq_true rfl)) dL_law_691 ⟨Nat.le_trans (Nat.add_le_add_left (c1_le _) _) hc, Nat.le_trans (Nat.add_le_add_left (c6_le _) _) hs⟩) hI hS rfl in_M (fun H locs hI hS => ?_)
  refine lv_istore (lv' := (7, .int _) :: (6, .int _) :: lc b q q' i) hx hb dL_law_694 hl (by decide) rfl (fun ls hl => ?_)
  refine tail_i C hts hI hS (by first | rfl | (split <;> first | rfl | (rename_i h9; exact h9.symm))) hl (Nat.le_trans (Nat.add_le_add_left (c1_le _) _) hc) (Nat.le_trans (Nat.add_le_add_left (c6_le _) _) hs) (s_nameOf R (xs (i + 1).toNatClampNeg)) (fun hex hm hg => (if_pos hm).trans hg.symm) (fun hex => if_pos hex) dL_law_696 dL_law_697 dL_law_700 dL_law_702 dL_law_707 dL_law_709 dL_law_712 dL_law_713 dL_law_714 dL_law_715 dL_law_717 dL_law_718 dL_law_719 dL_law_724 (by decide) (fun H locs ls hI hS hl => W.widen (Nat.add_le_add_left (c1_le _) _) (Nat.add_le_add_left (c6_le _) _) (kk H locs ls ?_))
  rcases (s_nameOf R (xs (i + 1).toNatClampNeg)) with ⟨hex, hm, hg⟩ | ⟨E, hex, -, hm⟩
  · rw [if_pos hex] at hI
    repeat rw [if_pos hm] at hI
    exact inv_mk hI hS hl R
  · rw [if_neg (by rw [hex]; exact Option.some_ne_none _)] at hI
    repeat rw [if_neg hm] at hI
    exact inv_mk hI hS hl R
set_option maxHeartbeats 4000000 in
set_option maxRecDepth 100000 in
theorem lw_c8 (C : CallFix p m c cL_law 8 s args wsL_law RL) (hts : ∀ w ∈ wsL_law, w.before args s = true) (hst : l.stackTraces = false) (hX : lwS b L xs s i) (h : inv s D cy q q' b i H locs ls) (hc : cells + 1 ≤ 1089) (hs : slots + 6 ≤ 8871)
    (kk : ∀ (H : Heap) (locs : List Loc) (ls : Array Slot), inv s D cy q q' b i H locs ls → W p l e room_1 s m args below meth c H locs (cells + 1) (slots + 6) Q (F0 m 2139 ls [])) : W p l e room_1 s m args below meth c H locs cells slots Q (F0 m 727 ls []) := by
  obtain ⟨nk, nb, nm, A, S, B, T, f, g, R, hI, hS, hl⟩ := h
  have hx := C.1
  have hb := C.2.1
  refine lv_aload_n hx hb dL_law_727 rfl (lv_at hl 2 rfl) ?_
  refine r_arg C hX hS (lv_at hl 0 rfl) (lv_at hl 1 rfl) (by decide) hX.2.2.2.1 dL_law_728 dL_law_729 dL_law_731 dL_law_732 dL_law_733 ?_
  refine lv_aload_n hx hb dL_law_734 rfl (lv_at hl 4 rfl) ?_
  refine wl_i (vx_runSW (As := [.ref (q 0), .int (xs (i + 1).toNatClampNeg), .ref (q 19)]) (rest := []) C (c_L_version l hst D cy s.heap.size q A S f g (xs (i + 1).toNatClampNeg) nb R.2.2.1.1.1 R.2.2.1.1.2.1) (vx_cwSW 3 hts gL_law_L_version rfl rfl rfl (by decide +kernel) ⟨Nat.le_of_ble_eq_true rfl, Nat.le_of_ble_eq_true rfl⟩) (IH.left hI).preS rfl rfl hl.1 rfl (lv_room (Nat.le_of_ble_eq_true rfl)) dL_law_735 ⟨Nat.le_trans (Nat.add_le_add_left (c1_le _) _) hc, Nat.le_trans (Nat.add_le_add_left (c6_le _) _) hs⟩) hI hS wO_ite in_O (fun H locs hI hS => ?_)
  refine lv_istore (lv' := (6, .int _) :: lc b q q' i) hx hb dL_law_738 hl (by decide) rfl (fun ls hl => ?_)
  refine lv_aload_n hx hb dL_law_740 rfl (lv_at hl 4 rfl) ?_
  refine r_arg C hX hS (lv_at hl 1 rfl) (lv_at hl 2 rfl) (by decide) hX.2.2.2.1 dL_law_741 dL_law_742 dL_law_744 dL_law_745 dL_law_746 ?_
  refine wr_i (va_runV (As := [.int (xs (i + 1).toNatClampNeg)]) (rest := []) C (c_X4_version l D cy s.heap.size q' B T (xs (i + 1).toNatClampNeg) nb R.2.2.1.1.1 R.2.2.1.1.2.2) (cwV 1 hts gL_law_X4_version rfl rfl rfl (by decide +kernel) ⟨Nat.le_of_ble_eq_true rfl, Nat.le_of_ble_eq_true rfl⟩) ((IH.right hI).preV (k0 := 0) rfl rfl) rfl rfl hl.1 rfl (lv_room (Nat.le_of_ble_eq_true rfl)) dL_law_747 ⟨Nat.le_trans (Nat.add_le_add_left (c1_le _) _) hc, Nat.le_trans (Nat.add_le_add_left (c6_le _) _) hs⟩) hI hS rfl in_M (fun H locs hI hS => ?_)
  refine lv_istore (lv' := (7, .int _) :: (6, .int _) :: lc b q q' i) hx hb dL_law_750 hl (by decide) rfl (fun ls hl => ?_)
  refine tail_i C hts hI hS (by first | rfl | (split <;> first | rfl | (rename_i h9; exact h9.symm))) hl (Nat.le_trans (Nat.add_le_add_left (c1_le _) _) hc) (Nat.le_trans (Nat.add_le_add_left (c6_le _) _) hs) (s_version R (xs (i + 1).toNatClampNeg)) (fun hex hm hg => (if_pos hm).trans hg.symm) (fun hex => if_pos hex) dL_law_752 dL_law_753 dL_law_756 dL_law_758 dL_law_763 dL_law_765 dL_law_768 dL_law_769 dL_law_770 dL_law_771 dL_law_773 dL_law_774 dL_law_775 dL_law_780 (by decide) (fun H locs ls hI hS hl => W.widen (Nat.add_le_add_left (c1_le _) _) (Nat.add_le_add_left (c6_le _) _) (kk H locs ls ?_))
  rcases (s_version R (xs (i + 1).toNatClampNeg)) with ⟨hex, hm, hg⟩ | ⟨E, hex, -, hm⟩
  · rw [if_pos hex] at hI
    repeat rw [if_pos hm] at hI
    exact inv_mk hI hS hl R
  · rw [if_neg (by rw [hex]; exact Option.some_ne_none _)] at hI
    repeat rw [if_neg hm] at hI
    exact inv_mk hI hS hl R
set_option maxHeartbeats 4000000 in
set_option maxRecDepth 100000 in
theorem lw_c9 (C : CallFix p m c cL_law 8 s args wsL_law RL) (hts : ∀ w ∈ wsL_law, w.before args s = true) (hst : l.stackTraces = false) (hX : lwS b L xs s i) (h : inv s D cy q q' b i H locs ls) (hc : cells + 1 ≤ 1089) (hs : slots + 6 ≤ 8871)
    (kk : ∀ (H : Heap) (locs : List Loc) (ls : Array Slot), inv s D cy q q' b i H locs ls → W p l e room_1 s m args below meth c H locs (cells + 1) (slots + 6) Q (F0 m 2139 ls [])) : W p l e room_1 s m args below meth c H locs cells slots Q (F0 m 783 ls []) := by
  obtain ⟨nk, nb, nm, A, S, B, T, f, g, R, hI, hS, hl⟩ := h
  have hx := C.1
  have hb := C.2.1
  refine lv_aload_n hx hb dL_law_783 rfl (lv_at hl 2 rfl) ?_
  refine r_arg C hX hS (lv_at hl 0 rfl) (lv_at hl 1 rfl) (by decide) hX.2.2.2.1 dL_law_784 dL_law_785 dL_law_787 dL_law_788 dL_law_789 ?_
  refine r_arg C hX hS (lv_at hl 0 rfl) (lv_at hl 1 rfl) (by decide) hX.2.2.2.2.1 dL_law_790 dL_law_791 dL_law_793 dL_law_794 dL_law_795 ?_
  refine lv_aload_n hx hb dL_law_796 rfl (lv_at hl 4 rfl) ?_
  refine wl_i (vx_runSW (As := [.ref (q 0), .int (xs (i + 1).toNatClampNeg), .int (xs (i + 2).toNatClampNeg), .ref (q 19)]) (rest := []) C (c_L_uses l hst D cy s.heap.size q A S f g (xs (i + 1).toNatClampNeg) (xs (i + 2).toNatClampNeg) nb R.2.2.1.1.1 R.2.2.1.1.2.1) (vx_cwSW 4 hts gL_law_L_uses rfl rfl rfl (by decide +kernel) ⟨Nat.le_of_ble_eq_true rfl, Nat.le_of_ble_eq_true rfl⟩) (IH.left hI).preS rfl rfl hl.1 rfl (lv_room (Nat.le_of_ble_eq_true rfl)) dL_law_797 ⟨Nat.le_trans (Nat.add_le_add_left (c1_le _) _) hc, Nat.le_trans (Nat.add_le_add_left (c6_le _) _) hs⟩) hI hS wO_ite in_O (fun H locs hI hS => ?_)
  refine lv_istore (lv' := (6, .int _) :: lc b q q' i) hx hb dL_law_800 hl (by decide) rfl (fun ls hl => ?_)
  refine lv_aload_n hx hb dL_law_802 rfl (lv_at hl 4 rfl) ?_
  refine r_arg C hX hS (lv_at hl 1 rfl) (lv_at hl 2 rfl) (by decide) hX.2.2.2.1 dL_law_803 dL_law_804 dL_law_806 dL_law_807 dL_law_808 ?_
  refine r_arg C hX hS (lv_at hl 1 rfl) (lv_at hl 2 rfl) (by decide) hX.2.2.2.2.1 dL_law_809 dL_law_810 dL_law_812 dL_law_813 dL_law_814 ?_
  refine wr_i (va_runV (As := [.int (xs (i + 1).toNatClampNeg), .int (xs (i + 2).toNatClampNeg)]) (rest := []) C (c_X4_uses l D cy s.heap.size q' B T (xs (i + 1).toNatClampNeg) (xs (i + 2).toNatClampNeg) nb R.2.2.1.1.1 R.2.2.1.1.2.2) (cwV 2 hts gL_law_X4_uses rfl rfl rfl (by decide +kernel) ⟨Nat.le_of_ble_eq_true rfl, Nat.le_of_ble_eq_true rfl⟩) ((IH.right hI).preV (k0 := 0) rfl rfl) rfl rfl hl.1 rfl (lv_room (Nat.le_of_ble_eq_true rfl)) dL_law_815 ⟨Nat.le_trans (Nat.add_le_add_left (c1_le _) _) hc, Nat.le_trans (Nat.add_le_add_left (c6_le _) _) hs⟩) hI hS rfl in_M (fun H locs hI hS => ?_)
  refine lv_istore (lv' := (7, .int _) :: (6, .int _) :: lc b q q' i) hx hb dL_law_818 hl (by decide) rfl (fun ls hl => ?_)
  refine tail_b C hts hI hS (by first | rfl | (split <;> first | rfl | (rename_i h9; exact h9.symm))) hl (Nat.le_trans (Nat.add_le_add_left (c1_le _) _) hc) (Nat.le_trans (Nat.add_le_add_left (c6_le _) _) hs) (s_uses R (xs (i + 1).toNatClampNeg) (xs (i + 2).toNatClampNeg)) (fun hex hm hg => hg.symm) (bI_01 _) (fun hex => if_pos hex) dL_law_820 dL_law_821 dL_law_824 dL_law_826 dL_law_831 dL_law_833 dL_law_836 dL_law_837 dL_law_838 dL_law_839 dL_law_841 dL_law_844 dL_law_845 dL_law_848 dL_law_849 dL_law_850 dL_law_855 (by decide) (fun H locs ls hI hS hl => W.widen (Nat.add_le_add_left (c1_le _) _) (Nat.add_le_add_left (c6_le _) _) (kk H locs ls ?_))
  rcases (s_uses R (xs (i + 1).toNatClampNeg) (xs (i + 2).toNatClampNeg)) with ⟨hex, hm, hg⟩ | ⟨E, hex, -, hm⟩
  · rw [if_pos hex] at hI
    repeat rw [if_pos hm] at hI
    exact inv_mk hI hS hl R
  · rw [if_neg (by rw [hex]; exact Option.some_ne_none _)] at hI
    repeat rw [if_neg hm] at hI
    exact inv_mk hI hS hl R
set_option maxHeartbeats 4000000 in
set_option maxRecDepth 100000 in
theorem lw_c10 (C : CallFix p m c cL_law 8 s args wsL_law RL) (hts : ∀ w ∈ wsL_law, w.before args s = true) (hst : l.stackTraces = false) (hX : lwS b L xs s i) (h : inv s D cy q q' b i H locs ls) (hc : cells + 1 ≤ 1089) (hs : slots + 6 ≤ 8871)
    (kk : ∀ (H : Heap) (locs : List Loc) (ls : Array Slot), inv s D cy q q' b i H locs ls → W p l e room_1 s m args below meth c H locs (cells + 1) (slots + 6) Q (F0 m 2139 ls [])) : W p l e room_1 s m args below meth c H locs cells slots Q (F0 m 858 ls []) := by
  obtain ⟨nk, nb, nm, A, S, B, T, f, g, R, hI, hS, hl⟩ := h
  have hx := C.1
  have hb := C.2.1
  refine lv_aload_n hx hb dL_law_858 rfl (lv_at hl 2 rfl) ?_
  refine r_arg C hX hS (lv_at hl 0 rfl) (lv_at hl 1 rfl) (by decide) hX.2.2.2.1 dL_law_859 dL_law_860 dL_law_862 dL_law_863 dL_law_864 ?_
  refine lv_aload_n hx hb dL_law_865 rfl (lv_at hl 4 rfl) ?_
  refine wl_i (vx_runSW (As := [.ref (q 0), .int (xs (i + 1).toNatClampNeg), .ref (q 19)]) (rest := []) C (c_L_used l hst D cy s.heap.size q A S f g (xs (i + 1).toNatClampNeg) nb R.2.2.1.1.1 R.2.2.1.1.2.1) (vx_cwSW 3 hts gL_law_L_used rfl rfl rfl (by decide +kernel) ⟨Nat.le_of_ble_eq_true rfl, Nat.le_of_ble_eq_true rfl⟩) (IH.left hI).preS rfl rfl hl.1 rfl (lv_room (Nat.le_of_ble_eq_true rfl)) dL_law_866 ⟨Nat.le_trans (Nat.add_le_add_left (c1_le _) _) hc, Nat.le_trans (Nat.add_le_add_left (c6_le _) _) hs⟩) hI hS wO_ite in_O (fun H locs hI hS => ?_)
  refine lv_istore (lv' := (6, .int _) :: lc b q q' i) hx hb dL_law_869 hl (by decide) rfl (fun ls hl => ?_)
  refine lv_aload_n hx hb dL_law_871 rfl (lv_at hl 4 rfl) ?_
  refine r_arg C hX hS (lv_at hl 1 rfl) (lv_at hl 2 rfl) (by decide) hX.2.2.2.1 dL_law_872 dL_law_873 dL_law_875 dL_law_876 dL_law_877 ?_
  refine wr_i (va_runV (As := [.int (xs (i + 1).toNatClampNeg)]) (rest := []) C (c_X4_used l D cy s.heap.size q' B T (xs (i + 1).toNatClampNeg) nb R.2.2.1.1.1 R.2.2.1.1.2.2) (cwV 1 hts gL_law_X4_used rfl rfl rfl (by decide +kernel) ⟨Nat.le_of_ble_eq_true rfl, Nat.le_of_ble_eq_true rfl⟩) ((IH.right hI).preV (k0 := 0) rfl rfl) rfl rfl hl.1 rfl (lv_room (Nat.le_of_ble_eq_true rfl)) dL_law_878 ⟨Nat.le_trans (Nat.add_le_add_left (c1_le _) _) hc, Nat.le_trans (Nat.add_le_add_left (c6_le _) _) hs⟩) hI hS rfl in_M (fun H locs hI hS => ?_)
  refine lv_istore (lv' := (7, .int _) :: (6, .int _) :: lc b q q' i) hx hb dL_law_881 hl (by decide) rfl (fun ls hl => ?_)
  refine tail_i C hts hI hS (by first | rfl | (split <;> first | rfl | (rename_i h9; exact h9.symm))) hl (Nat.le_trans (Nat.add_le_add_left (c1_le _) _) hc) (Nat.le_trans (Nat.add_le_add_left (c6_le _) _) hs) (s_used R (xs (i + 1).toNatClampNeg)) (fun hex hm hg => (if_pos hm).trans hg.symm) (fun hex => if_pos hex) dL_law_883 dL_law_884 dL_law_887 dL_law_889 dL_law_894 dL_law_896 dL_law_899 dL_law_900 dL_law_901 dL_law_902 dL_law_904 dL_law_905 dL_law_906 dL_law_911 (by decide) (fun H locs ls hI hS hl => W.widen (Nat.add_le_add_left (c1_le _) _) (Nat.add_le_add_left (c6_le _) _) (kk H locs ls ?_))
  rcases (s_used R (xs (i + 1).toNatClampNeg)) with ⟨hex, hm, hg⟩ | ⟨E, hex, -, hm⟩
  · rw [if_pos hex] at hI
    repeat rw [if_pos hm] at hI
    exact inv_mk hI hS hl R
  · rw [if_neg (by rw [hex]; exact Option.some_ne_none _)] at hI
    repeat rw [if_neg hm] at hI
    exact inv_mk hI hS hl R
set_option maxHeartbeats 4000000 in
set_option maxRecDepth 100000 in
theorem lw_c11 (C : CallFix p m c cL_law 8 s args wsL_law RL) (hts : ∀ w ∈ wsL_law, w.before args s = true) (hst : l.stackTraces = false) (hX : lwS b L xs s i) (h : inv s D cy q q' b i H locs ls) (hc : cells + 1 ≤ 1089) (hs : slots + 6 ≤ 8871)
    (kk : ∀ (H : Heap) (locs : List Loc) (ls : Array Slot), inv s D cy q q' b i H locs ls → W p l e room_1 s m args below meth c H locs (cells + 1) (slots + 6) Q (F0 m 2139 ls [])) : W p l e room_1 s m args below meth c H locs cells slots Q (F0 m 914 ls []) := by
  obtain ⟨nk, nb, nm, A, S, B, T, f, g, R, hI, hS, hl⟩ := h
  have hx := C.1
  have hb := C.2.1
  refine lv_aload_n hx hb dL_law_914 rfl (lv_at hl 2 rfl) ?_
  refine r_arg C hX hS (lv_at hl 0 rfl) (lv_at hl 1 rfl) (by decide) hX.2.2.2.1 dL_law_915 dL_law_916 dL_law_918 dL_law_919 dL_law_920 ?_
  refine lv_aload_n hx hb dL_law_921 rfl (lv_at hl 4 rfl) ?_
  refine wl_i (vx_runSW (As := [.ref (q 0), .int (xs (i + 1).toNatClampNeg), .ref (q 19)]) (rest := []) C (c_L_newest l hst D cy s.heap.size q A S f g (xs (i + 1).toNatClampNeg) nb R.2.2.1.1.1 R.2.2.1.1.2.1 R.2.2.1.2.2.2.1) (vx_cwSW 3 hts gL_law_L_newest rfl rfl rfl (by decide +kernel) ⟨Nat.le_of_ble_eq_true rfl, Nat.le_of_ble_eq_true rfl⟩) (IH.left hI).preS rfl rfl hl.1 rfl (lv_room (Nat.le_of_ble_eq_true rfl)) dL_law_922 ⟨Nat.le_trans (Nat.add_le_add_left (c1_le _) _) hc, Nat.le_trans (Nat.add_le_add_left (c6_le _) _) hs⟩) hI hS wO_ite in_O (fun H locs hI hS => ?_)
  refine lv_istore (lv' := (6, .int _) :: lc b q q' i) hx hb dL_law_925 hl (by decide) rfl (fun ls hl => ?_)
  refine lv_aload_n hx hb dL_law_927 rfl (lv_at hl 4 rfl) ?_
  refine r_arg C hX hS (lv_at hl 1 rfl) (lv_at hl 2 rfl) (by decide) hX.2.2.2.1 dL_law_928 dL_law_929 dL_law_931 dL_law_932 dL_law_933 ?_
  refine wr_i (va_runV (As := [.int (xs (i + 1).toNatClampNeg)]) (rest := []) C (c_X4_newest l D cy s.heap.size q' B T (xs (i + 1).toNatClampNeg) nk R.1.1 R.1.2.2.1 nb R.2.2.1.1.1 R.2.2.1.1.2.2 (lw_tn R)) (cwV 1 hts gL_law_X4_newest rfl rfl rfl (by decide +kernel) ⟨Nat.le_of_ble_eq_true rfl, Nat.le_of_ble_eq_true rfl⟩) ((IH.right hI).preV (k0 := 0) rfl rfl) rfl rfl hl.1 rfl (lv_room (Nat.le_of_ble_eq_true rfl)) dL_law_934 ⟨Nat.le_trans (Nat.add_le_add_left (c1_le _) _) hc, Nat.le_trans (Nat.add_le_add_left (c6_le _) _) hs⟩) hI hS rfl in_M (fun H locs hI hS => ?_)
  refine lv_istore (lv' := (7, .int _) :: (6, .int _) :: lc b q q' i) hx hb dL_law_937 hl (by decide) rfl (fun ls hl => ?_)
  refine tail_i C hts hI hS (by first | rfl | (split <;> first | rfl | (rename_i h9; exact h9.symm))) hl (Nat.le_trans (Nat.add_le_add_left (c1_le _) _) hc) (Nat.le_trans (Nat.add_le_add_left (c6_le _) _) hs) (s_newest R (xs (i + 1).toNatClampNeg)) (fun hex hm hg => (if_pos hm).trans hg.symm) (fun hex => if_pos hex) dL_law_939 dL_law_940 dL_law_943 dL_law_945 dL_law_950 dL_law_952 dL_law_955 dL_law_956 dL_law_957 dL_law_958 dL_law_960 dL_law_961 dL_law_962 dL_law_967 (by decide) (fun H locs ls hI hS hl => W.widen (Nat.add_le_add_left (c1_le _) _) (Nat.add_le_add_left (c6_le _) _) (kk H locs ls ?_))
  rcases (s_newest R (xs (i + 1).toNatClampNeg)) with ⟨hex, hm, hg⟩ | ⟨E, hex, -, hm⟩
  · rw [if_pos hex] at hI
    repeat rw [if_pos hm] at hI
    exact inv_mk hI hS hl R
  · rw [if_neg (by rw [hex]; exact Option.some_ne_none _)] at hI
    repeat rw [if_neg hm] at hI
    exact inv_mk hI hS hl R
end CASES1
