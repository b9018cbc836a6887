/-! The law's cases 24 to 31. Rows by wip/whole/gen/part60.py. -/
section CASES4
variable {p : Program} {l : Launch} {e : Env} {s : State} {m : MethodId} {args : Array Value} {below : List Frame} {meth : Method} {c : Code} {H : Heap} {locs : List Loc} {cells slots : Nat} {Q : State → Prop}
variable {ls : Array Slot} {D : va_G} {cy : Nat → ClassId} {b L : Nat} {xs : Nat → Int32} {i : Int32} {q q' : Nat → Nat}
set_option maxHeartbeats 4000000 in
set_option maxRecDepth 100000 in
theorem lw_c24 (C : CallFix p m c cL_law 8 s args wsL_law RL) (hts : ∀ w ∈ wsL_law, w.before args s = true) (hst : l.stackTraces = false) (hX : lwS b L xs s i) (h : inv s D cy q q' b i H locs ls) (hc : cells + 1 ≤ 1089) (hs : slots + 6 ≤ 8871)
    (kk : ∀ (H : Heap) (locs : List Loc) (ls : Array Slot), inv s D cy q q' b i H locs ls → W p l e room_1 s m args below meth c H locs (cells + 1) (slots + 6) Q (F0 m 2139 ls [])) : W p l e room_1 s m args below meth c H locs cells slots Q (F0 m 1769 ls []) := by
  obtain ⟨nk, nb, nm, A, S, B, T, f, g, R, hI, hS, hl⟩ := h
  have hx := C.1
  have hb := C.2.1
  refine lv_aload_n hx hb dL_law_1769 rfl (lv_at hl 2 rfl) ?_
  refine lv_aload_n hx hb dL_law_1770 rfl (lv_at hl 4 rfl) ?_
  refine wl_i (vx_runSW (As := [.ref (q 0), .ref (q 19)]) (rest := []) C (c_L_addMirror l hst D cy s.heap.size q A S f g nm R.2.2.2.2.2.1 R.2.2.2.2.2.2.1) (vx_cwSW 2 hts gL_law_L_addMirror rfl rfl rfl (by decide +kernel) ⟨Nat.le_of_ble_eq_true rfl, Nat.le_of_ble_eq_true rfl⟩) (IH.left hI).preS rfl rfl hl.1 rfl (lv_room (Nat.le_of_ble_eq_true rfl)) dL_law_1771 ⟨Nat.le_trans (Nat.add_le_add_left (c1_le _) _) hc, Nat.le_trans (Nat.add_le_add_left (c6_le _) _) hs⟩) hI hS wO_ite in_O (fun H locs hI hS => ?_)
  refine lv_istore (lv' := (6, .int _) :: lc b q q' i) hx hb dL_law_1774 hl (by decide) rfl (fun ls hl => ?_)
  refine lv_aload_n hx hb dL_law_1776 rfl (lv_at hl 4 rfl) ?_
  refine wr_i (va_runV (As := []) (rest := []) C (c_X4_addMirror l D cy s.heap.size q' B T nm R.2.2.2.2.2.1 R.2.2.2.2.2.2.2.1) (cwV 0 hts gL_law_X4_addMirror rfl rfl rfl (by decide +kernel) ⟨Nat.le_of_ble_eq_true rfl, Nat.le_of_ble_eq_true rfl⟩) ((IH.right hI).preV (k0 := 0) rfl rfl) rfl rfl hl.1 rfl (lv_room (Nat.le_of_ble_eq_true rfl)) dL_law_1777 ⟨Nat.le_trans (Nat.add_le_add_left (c1_le _) _) hc, Nat.le_trans (Nat.add_le_add_left (c6_le _) _) hs⟩) hI hS rfl in_M (fun H locs hI hS => ?_)
  refine lv_istore (lv' := (7, .int _) :: (6, .int _) :: lc b q q' i) hx hb dL_law_1780 hl (by decide) rfl (fun ls hl => ?_)
  refine tail_i C hts hI hS (by first | rfl | (split <;> first | rfl | (rename_i h9; exact h9.symm))) hl (Nat.le_trans (Nat.add_le_add_left (c1_le _) _) hc) (Nat.le_trans (Nat.add_le_add_left (c6_le _) _) hs) (s_addMirror R) (fun hex hm hg => (if_pos hm).trans hg.1.symm) (fun hex => if_pos hex) dL_law_1782 dL_law_1783 dL_law_1786 dL_law_1788 dL_law_1793 dL_law_1795 dL_law_1798 dL_law_1799 dL_law_1800 dL_law_1801 dL_law_1803 dL_law_1804 dL_law_1805 dL_law_1810 (by decide) (fun H locs ls hI hS hl => W.widen (Nat.add_le_add_left (c1_le _) _) (Nat.add_le_add_left (c6_le _) _) (kk H locs ls ?_))
  rcases (s_addMirror R) with ⟨hex, hm, hg⟩ | ⟨E, hex, -, hm⟩
  · rw [if_pos hex] at hI
    repeat rw [if_pos hm] at hI
    exact inv_mk hI hS hl hg.2.2
  · rw [if_neg (by rw [hex]; exact Option.some_ne_none _)] at hI
    repeat rw [if_neg hm] at hI
    exact inv_mk hI hS hl R
set_option maxHeartbeats 4000000 in
set_option maxRecDepth 100000 in
theorem lw_c25 (C : CallFix p m c cL_law 8 s args wsL_law RL) (hts : ∀ w ∈ wsL_law, w.before args s = true) (hst : l.stackTraces = false) (hX : lwS b L xs s i) (h : inv s D cy q q' b i H locs ls) (hc : cells + 1 ≤ 1089) (hs : slots + 6 ≤ 8871)
    (kk : ∀ (H : Heap) (locs : List Loc) (ls : Array Slot), inv s D cy q q' b i H locs ls → W p l e room_1 s m args below meth c H locs (cells + 1) (slots + 6) Q (F0 m 2139 ls [])) : W p l e room_1 s m args below meth c H locs cells slots Q (F0 m 1813 ls []) := by
  obtain ⟨nk, nb, nm, A, S, B, T, f, g, R, hI, hS, hl⟩ := h
  have hx := C.1
  have hb := C.2.1
  refine lv_aload_n hx hb dL_law_1813 rfl (lv_at hl 2 rfl) ?_
  refine r_arg C hX hS (lv_at hl 0 rfl) (lv_at hl 1 rfl) (by decide) hX.2.2.2.1 dL_law_1814 dL_law_1815 dL_law_1817 dL_law_1818 dL_law_1819 ?_
  refine lv_aload_n hx hb dL_law_1820 rfl (lv_at hl 4 rfl) ?_
  refine wl_i (vx_runSW (As := [.ref (q 0), .int (xs (i + 1).toNatClampNeg), .ref (q 19)]) (rest := []) C (c_L_update l hst D cy s.heap.size q A S f g (xs (i + 1).toNatClampNeg) nb R.2.2.1.1.1 R.2.2.1.1.2.1 nm R.2.2.2.2.2.1 R.2.2.2.2.2.2.1) (vx_cwSW 3 hts gL_law_L_update rfl rfl rfl (by decide +kernel) ⟨Nat.le_of_ble_eq_true rfl, Nat.le_of_ble_eq_true rfl⟩) (IH.left hI).preS rfl rfl hl.1 rfl (lv_room (Nat.le_of_ble_eq_true rfl)) dL_law_1821 ⟨Nat.le_trans (Nat.add_le_add_left (c1_le _) _) hc, Nat.le_trans (Nat.add_le_add_left (c6_le _) _) hs⟩) hI hS wO_ite in_O (fun H locs hI hS => ?_)
  refine lv_istore (lv' := (6, .int _) :: lc b q q' i) hx hb dL_law_1824 hl (by decide) rfl (fun ls hl => ?_)
  refine lv_aload_n hx hb dL_law_1826 rfl (lv_at hl 4 rfl) ?_
  refine r_arg C hX hS (lv_at hl 1 rfl) (lv_at hl 2 rfl) (by decide) hX.2.2.2.1 dL_law_1827 dL_law_1828 dL_law_1830 dL_law_1831 dL_law_1832 ?_
  refine wr_i (va_runV (As := [.int (xs (i + 1).toNatClampNeg)]) (rest := []) C (c_X4_update l D cy s.heap.size q' B T (xs (i + 1).toNatClampNeg) nb R.2.2.1.1.1 R.2.2.1.1.2.2 nm R.2.2.2.2.2.1 R.2.2.2.2.2.2.2.1) (cwV 1 hts gL_law_X4_update rfl rfl rfl (by decide +kernel) ⟨Nat.le_of_ble_eq_true rfl, Nat.le_of_ble_eq_true rfl⟩) ((IH.right hI).preV (k0 := 0) rfl rfl) rfl rfl hl.1 rfl (lv_room (Nat.le_of_ble_eq_true rfl)) dL_law_1833 ⟨Nat.le_trans (Nat.add_le_add_left (c1_le _) _) hc, Nat.le_trans (Nat.add_le_add_left (c6_le _) _) hs⟩) hI hS rfl in_M (fun H locs hI hS => ?_)
  refine lv_istore (lv' := (7, .int _) :: (6, .int _) :: lc b q q' i) hx hb dL_law_1836 hl (by decide) rfl (fun ls hl => ?_)
  refine tail_i C hts hI hS (by first | rfl | (split <;> first | rfl | (rename_i h9; exact h9.symm))) hl (Nat.le_trans (Nat.add_le_add_left (c1_le _) _) hc) (Nat.le_trans (Nat.add_le_add_left (c6_le _) _) hs) (s_update R (xs (i + 1).toNatClampNeg)) (fun hex hm hg => (if_pos hm).trans hg.1.symm) (fun hex => if_pos hex) dL_law_1838 dL_law_1839 dL_law_1842 dL_law_1844 dL_law_1849 dL_law_1851 dL_law_1854 dL_law_1855 dL_law_1856 dL_law_1857 dL_law_1859 dL_law_1860 dL_law_1861 dL_law_1866 (by decide) (fun H locs ls hI hS hl => W.widen (Nat.add_le_add_left (c1_le _) _) (Nat.add_le_add_left (c6_le _) _) (kk H locs ls ?_))
  rcases (s_update R (xs (i + 1).toNatClampNeg)) with ⟨hex, hm, hg⟩ | ⟨E, hex, -, hm⟩
  · rw [if_pos hex] at hI
    repeat rw [if_pos hm] at hI
    exact inv_mk hI hS hl hg.2
  · rw [if_neg (by rw [hex]; exact Option.some_ne_none _)] at hI
    repeat rw [if_neg hm] at hI
    exact inv_mk hI hS hl R
set_option maxHeartbeats 4000000 in
set_option maxRecDepth 100000 in
theorem lw_c26 (C : CallFix p m c cL_law 8 s args wsL_law RL) (hts : ∀ w ∈ wsL_law, w.before args s = true) (hst : l.stackTraces = false) (hX : lwS b L xs s i) (h : inv s D cy q q' b i H locs ls) (hc : cells + 1 ≤ 1089) (hs : slots + 6 ≤ 8871)
    (kk : ∀ (H : Heap) (locs : List Loc) (ls : Array Slot), inv s D cy q q' b i H locs ls → W p l e room_1 s m args below meth c H locs (cells + 1) (slots + 6) Q (F0 m 2139 ls [])) : W p l e room_1 s m args below meth c H locs cells slots Q (F0 m 1869 ls []) := by
  obtain ⟨nk, nb, nm, A, S, B, T, f, g, R, hI, hS, hl⟩ := h
  have hx := C.1
  have hb := C.2.1
  refine lv_aload_n hx hb dL_law_1869 rfl (lv_at hl 2 rfl) ?_
  refine r_arg C hX hS (lv_at hl 0 rfl) (lv_at hl 1 rfl) (by decide) hX.2.2.2.1 dL_law_1870 dL_law_1871 dL_law_1873 dL_law_1874 dL_law_1875 ?_
  refine lv_aload_n hx hb dL_law_1876 rfl (lv_at hl 4 rfl) ?_
  refine wl_i (vx_runSW (As := [.ref (q 0), .int (xs (i + 1).toNatClampNeg), .ref (q 19)]) (rest := []) C (c_L_isExpired l hst D cy s.heap.size q A S f g (xs (i + 1).toNatClampNeg) nm R.2.2.2.2.2.1 R.2.2.2.2.2.2.1) (vx_cwSW 3 hts gL_law_L_isExpired rfl rfl rfl (by decide +kernel) ⟨Nat.le_of_ble_eq_true rfl, Nat.le_of_ble_eq_true rfl⟩) (IH.left hI).preS rfl rfl hl.1 rfl (lv_room (Nat.le_of_ble_eq_true rfl)) dL_law_1877 ⟨Nat.le_trans (Nat.add_le_add_left (c1_le _) _) hc, Nat.le_trans (Nat.add_le_add_left (c6_le _) _) hs⟩) hI hS wO_ite in_O (fun H locs hI hS => ?_)
  refine lv_istore (lv' := (6, .int _) :: lc b q q' i) hx hb dL_law_1880 hl (by decide) rfl (fun ls hl => ?_)
  refine lv_aload_n hx hb dL_law_1882 rfl (lv_at hl 4 rfl) ?_
  refine r_arg C hX hS (lv_at hl 1 rfl) (lv_at hl 2 rfl) (by decide) hX.2.2.2.1 dL_law_1883 dL_law_1884 dL_law_1886 dL_law_1887 dL_law_1888 ?_
  refine wr_i (va_runV (As := [.int (xs (i + 1).toNatClampNeg)]) (rest := []) C (c_X4_isExpired l D cy s.heap.size q' B T (xs (i + 1).toNatClampNeg) nm R.2.2.2.2.2.1 R.2.2.2.2.2.2.2.1) (cwV 1 hts gL_law_X4_isExpired rfl rfl rfl (by decide +kernel) ⟨Nat.le_of_ble_eq_true rfl, Nat.le_of_ble_eq_true rfl⟩) ((IH.right hI).preV (k0 := 0) rfl rfl) rfl rfl hl.1 rfl (lv_room (Nat.le_of_ble_eq_true rfl)) dL_law_1889 ⟨Nat.le_trans (Nat.add_le_add_left (c1_le _) _) hc, Nat.le_trans (Nat.add_le_add_left (c6_le _) _) hs⟩) hI hS rfl in_M (fun H locs hI hS => ?_)
  refine lv_istore (lv' := (7, .int _) :: (6, .int _) :: lc b q q' i) hx hb dL_law_1892 hl (by decide) rfl (fun ls hl => ?_)
  refine tail_b C hts hI hS (by first | rfl | (split <;> first | rfl | (rename_i h9; exact h9.symm))) hl (Nat.le_trans (Nat.add_le_add_left (c1_le _) _) hc) (Nat.le_trans (Nat.add_le_add_left (c6_le _) _) hs) (s_isExpired R (xs (i + 1).toNatClampNeg)) (fun hex hm hg => hg.symm) (bI_01 _) (fun hex => if_pos hex) dL_law_1894 dL_law_1895 dL_law_1898 dL_law_1900 dL_law_1905 dL_law_1907 dL_law_1910 dL_law_1911 dL_law_1912 dL_law_1913 dL_law_1915 dL_law_1918 dL_law_1919 dL_law_1922 dL_law_1923 dL_law_1924 dL_law_1929 (by decide) (fun H locs ls hI hS hl => W.widen (Nat.add_le_add_left (c1_le _) _) (Nat.add_le_add_left (c6_le _) _) (kk H locs ls ?_))
  rcases (s_isExpired R (xs (i + 1).toNatClampNeg)) with ⟨hex, hm, hg⟩ | ⟨E, hex, -, hm⟩
  · rw [if_pos hex] at hI
    repeat rw [if_pos hm] at hI
    exact inv_mk hI hS hl R
  · rw [if_neg (by rw [hex]; exact Option.some_ne_none _)] at hI
    repeat rw [if_neg hm] at hI
    exact inv_mk hI hS hl R
set_option maxHeartbeats 4000000 in
set_option maxRecDepth 100000 in
theorem lw_c27 (C : CallFix p m c cL_law 8 s args wsL_law RL) (hts : ∀ w ∈ wsL_law, w.before args s = true) (hst : l.stackTraces = false) (hX : lwS b L xs s i) (h : inv s D cy q q' b i H locs ls) (hc : cells + 1 ≤ 1089) (hs : slots + 6 ≤ 8871)
    (kk : ∀ (H : Heap) (locs : List Loc) (ls : Array Slot), inv s D cy q q' b i H locs ls → W p l e room_1 s m args below meth c H locs (cells + 1) (slots + 6) Q (F0 m 2139 ls [])) : W p l e room_1 s m args below meth c H locs cells slots Q (F0 m 1932 ls []) := by
  obtain ⟨nk, nb, nm, A, S, B, T, f, g, R, hI, hS, hl⟩ := h
  have hx := C.1
  have hb := C.2.1
  refine lv_aload_n hx hb dL_law_1932 rfl (lv_at hl 2 rfl) ?_
  refine r_arg C hX hS (lv_at hl 0 rfl) (lv_at hl 1 rfl) (by decide) hX.2.2.2.1 dL_law_1933 dL_law_1934 dL_law_1936 dL_law_1937 dL_law_1938 ?_
  refine lv_aload_n hx hb dL_law_1939 rfl (lv_at hl 4 rfl) ?_
  refine wl_i (vx_runSW (As := [.ref (q 0), .int (xs (i + 1).toNatClampNeg), .ref (q 19)]) (rest := []) C (c_L_setExpiry l hst D cy s.heap.size q A S f g (xs (i + 1).toNatClampNeg)) (vx_cwSW 3 hts gL_law_L_setExpiry rfl rfl rfl (by decide +kernel) ⟨Nat.le_of_ble_eq_true rfl, Nat.le_of_ble_eq_true rfl⟩) (IH.left hI).preS rfl rfl hl.1 rfl (lv_room (Nat.le_of_ble_eq_true rfl)) dL_law_1940 ⟨Nat.le_trans (Nat.add_le_add_left (c1_le _) _) hc, Nat.le_trans (Nat.add_le_add_left (c6_le _) _) hs⟩) hI hS wO_ite in_O (fun H locs hI hS => ?_)
  refine lv_istore (lv' := (6, .int _) :: lc b q q' i) hx hb dL_law_1943 hl (by decide) rfl (fun ls hl => ?_)
  refine lv_aload_n hx hb dL_law_1945 rfl (lv_at hl 4 rfl) ?_
  refine r_arg C hX hS (lv_at hl 1 rfl) (lv_at hl 2 rfl) (by decide) hX.2.2.2.1 dL_law_1946 dL_law_1947 dL_law_1949 dL_law_1950 dL_law_1951 ?_
  refine wr_i (va_runV (As := [.int (xs (i + 1).toNatClampNeg)]) (rest := []) C (c_X4_setExpiry l D cy s.heap.size q' B T (xs (i + 1).toNatClampNeg)) (cwV 1 hts gL_law_X4_setExpiry rfl rfl rfl (by decide +kernel) ⟨Nat.le_of_ble_eq_true rfl, Nat.le_of_ble_eq_true rfl⟩) ((IH.right hI).preV (k0 := 0) rfl rfl) rfl rfl hl.1 rfl (lv_room (Nat.le_of_ble_eq_true rfl)) dL_law_1952 ⟨Nat.le_trans (Nat.add_le_add_left (c1_le _) _) hc, Nat.le_trans (Nat.add_le_add_left (c6_le _) _) hs⟩) hI hS rfl in_M (fun H locs hI hS => ?_)
  refine lv_istore (lv' := (7, .int _) :: (6, .int _) :: lc b q q' i) hx hb dL_law_1955 hl (by decide) rfl (fun ls hl => ?_)
  refine tail_i C hts hI hS (by first | rfl | (split <;> first | rfl | (rename_i h9; exact h9.symm))) hl (Nat.le_trans (Nat.add_le_add_left (c1_le _) _) hc) (Nat.le_trans (Nat.add_le_add_left (c6_le _) _) hs) (s_setExpiry R (xs (i + 1).toNatClampNeg)) (fun hex hm hg => (if_pos hm).trans hg.1.symm) (fun hex => if_pos hex) dL_law_1957 dL_law_1958 dL_law_1961 dL_law_1963 dL_law_1968 dL_law_1970 dL_law_1973 dL_law_1974 dL_law_1975 dL_law_1976 dL_law_1978 dL_law_1979 dL_law_1980 dL_law_1985 (by decide) (fun H locs ls hI hS hl => W.widen (Nat.add_le_add_left (c1_le _) _) (Nat.add_le_add_left (c6_le _) _) (kk H locs ls ?_))
  rcases (s_setExpiry R (xs (i + 1).toNatClampNeg)) with ⟨hex, hm, hg⟩ | ⟨E, hex, -, hm⟩
  · rw [if_pos hex] at hI
    repeat rw [if_pos hm] at hI
    exact inv_mk hI hS hl hg.2
  · rw [if_neg (by rw [hex]; exact Option.some_ne_none _)] at hI
    repeat rw [if_neg hm] at hI
    exact inv_mk hI hS hl R
set_option maxHeartbeats 4000000 in
set_option maxRecDepth 100000 in
theorem lw_c28 (C : CallFix p m c cL_law 8 s args wsL_law RL) (hts : ∀ w ∈ wsL_law, w.before args s = true) (hst : l.stackTraces = false) (hX : lwS b L xs s i) (h : inv s D cy q q' b i H locs ls) (hc : cells + 1 ≤ 1089) (hs : slots + 6 ≤ 8871)
    (kk : ∀ (H : Heap) (locs : List Loc) (ls : Array Slot), inv s D cy q q' b i H locs ls → W p l e room_1 s m args below meth c H locs (cells + 1) (slots + 6) Q (F0 m 2139 ls [])) : W p l e room_1 s m args below meth c H locs cells slots Q (F0 m 1988 ls []) := by
  obtain ⟨nk, nb, nm, A, S, B, T, f, g, R, hI, hS, hl⟩ := h
  have hx := C.1
  have hb := C.2.1
  refine lv_aload_n hx hb dL_law_1988 rfl (lv_at hl 2 rfl) ?_
  refine r_arg C hX hS (lv_at hl 0 rfl) (lv_at hl 1 rfl) (by decide) hX.2.2.2.1 dL_law_1989 dL_law_1990 dL_law_1992 dL_law_1993 dL_law_1994 ?_
  refine r_arg C hX hS (lv_at hl 0 rfl) (lv_at hl 1 rfl) (by decide) hX.2.2.2.2.1 dL_law_1995 dL_law_1996 dL_law_1998 dL_law_1999 dL_law_2000 ?_
  refine lv_aload_n hx hb dL_law_2001 rfl (lv_at hl 4 rfl) ?_
  refine wl_i (vx_runSW (As := [.ref (q 0), .int (xs (i + 1).toNatClampNeg), .int (xs (i + 2).toNatClampNeg), .ref (q 19)]) (rest := []) C (c_L_install l hst D cy s.heap.size q A S f g (xs (i + 1).toNatClampNeg) (xs (i + 2).toNatClampNeg) nb R.2.2.1.1.1 R.2.2.1.1.2.1 nm R.2.2.2.2.2.1 R.2.2.2.2.2.2.1 R.2.2.1.2.2.2.1) (vx_cwSW 4 hts gL_law_L_install rfl rfl rfl (by decide +kernel) ⟨Nat.le_of_ble_eq_true rfl, Nat.le_of_ble_eq_true rfl⟩) (IH.left hI).preS rfl rfl hl.1 rfl (lv_room (Nat.le_of_ble_eq_true rfl)) dL_law_2002 ⟨Nat.le_trans (Nat.add_le_add_left (c1_le _) _) hc, Nat.le_trans (Nat.add_le_add_left (c6_le _) _) hs⟩) hI hS wO_ite in_O (fun H locs hI hS => ?_)
  refine lv_istore (lv' := (6, .int _) :: lc b q q' i) hx hb dL_law_2005 hl (by decide) rfl (fun ls hl => ?_)
  refine lv_aload_n hx hb dL_law_2007 rfl (lv_at hl 4 rfl) ?_
  refine r_arg C hX hS (lv_at hl 1 rfl) (lv_at hl 2 rfl) (by decide) hX.2.2.2.1 dL_law_2008 dL_law_2009 dL_law_2011 dL_law_2012 dL_law_2013 ?_
  refine r_arg C hX hS (lv_at hl 1 rfl) (lv_at hl 2 rfl) (by decide) hX.2.2.2.2.1 dL_law_2014 dL_law_2015 dL_law_2017 dL_law_2018 dL_law_2019 ?_
  refine wr_i (va_runV (As := [.int (xs (i + 1).toNatClampNeg), .int (xs (i + 2).toNatClampNeg)]) (rest := []) C (c_X4_install l D cy s.heap.size q' B T (xs (i + 1).toNatClampNeg) (xs (i + 2).toNatClampNeg) nk R.1.1 R.1.2.2.1 nb R.2.2.1.1.1 R.2.2.1.1.2.2 nm R.2.2.2.2.2.1 R.2.2.2.2.2.2.2.1 (lw_tn R)) (cwV 2 hts gL_law_X4_install rfl rfl rfl (by decide +kernel) ⟨Nat.le_of_ble_eq_true rfl, Nat.le_of_ble_eq_true rfl⟩) ((IH.right hI).preV (k0 := 0) rfl rfl) rfl rfl hl.1 rfl (lv_room (Nat.le_of_ble_eq_true rfl)) dL_law_2020 ⟨Nat.le_trans (Nat.add_le_add_left (c1_le _) _) hc, Nat.le_trans (Nat.add_le_add_left (c6_le _) _) hs⟩) hI hS rfl in_M (fun H locs hI hS => ?_)
  refine lv_istore (lv' := (7, .int _) :: (6, .int _) :: lc b q q' i) hx hb dL_law_2023 hl (by decide) rfl (fun ls hl => ?_)
  refine tail_i C hts hI hS (by first | rfl | (split <;> first | rfl | (rename_i h9; exact h9.symm))) hl (Nat.le_trans (Nat.add_le_add_left (c1_le _) _) hc) (Nat.le_trans (Nat.add_le_add_left (c6_le _) _) hs) (s_install R (xs (i + 1).toNatClampNeg) (xs (i + 2).toNatClampNeg)) (fun hex hm hg => (if_pos hm).trans hg.symm) (fun hex => if_pos hex) dL_law_2025 dL_law_2026 dL_law_2029 dL_law_2031 dL_law_2036 dL_law_2038 dL_law_2041 dL_law_2042 dL_law_2043 dL_law_2044 dL_law_2046 dL_law_2047 dL_law_2048 dL_law_2053 (by decide) (fun H locs ls hI hS hl => W.widen (Nat.add_le_add_left (c1_le _) _) (Nat.add_le_add_left (c6_le _) _) (kk H locs ls ?_))
  rcases (s_install R (xs (i + 1).toNatClampNeg) (xs (i + 2).toNatClampNeg)) with ⟨hex, hm, hg⟩ | ⟨E, hex, -, hm⟩
  · rw [if_pos hex] at hI
    repeat rw [if_pos hm] at hI
    exact inv_mk hI hS hl R
  · rw [if_neg (by rw [hex]; exact Option.some_ne_none _)] at hI
    repeat rw [if_neg hm] at hI
    exact inv_mk hI hS hl R
set_option maxHeartbeats 4000000 in
set_option maxRecDepth 100000 in
theorem lw_c29 (C : CallFix p m c cL_law 8 s args wsL_law RL) (hts : ∀ w ∈ wsL_law, w.before args s = true) (hst : l.stackTraces = false) (hX : lwS b L xs s i) (h : inv s D cy q q' b i H locs ls) (hc : cells + 1 ≤ 1089) (hs : slots + 6 ≤ 8871)
    (kk : ∀ (H : Heap) (locs : List Loc) (ls : Array Slot), inv s D cy q q' b i H locs ls → W p l e room_1 s m args below meth c H locs (cells + 1) (slots + 6) Q (F0 m 2139 ls [])) : W p l e room_1 s m args below meth c H locs cells slots Q (F0 m 2056 ls []) := by
  obtain ⟨nk, nb, nm, A, S, B, T, f, g, R, hI, hS, hl⟩ := h
  have hx := C.1
  have hb := C.2.1
  refine lv_aload_n hx hb dL_law_2056 rfl (lv_at hl 2 rfl) ?_
  refine r_arg C hX hS (lv_at hl 0 rfl) (lv_at hl 1 rfl) (by decide) hX.2.2.2.1 dL_law_2057 dL_law_2058 dL_law_2060 dL_law_2061 dL_law_2062 ?_
  refine lv_aload_n hx hb dL_law_2063 rfl (lv_at hl 4 rfl) ?_
  refine wl_i (vx_runSW (As := [.ref (q 0), .int (xs (i + 1).toNatClampNeg), .ref (q 19)]) (rest := []) C (c_L_pass l hst D cy s.heap.size q A S f g (xs (i + 1).toNatClampNeg) nk R.1.1 R.1.2.1 nb R.2.2.1.1.1 R.2.2.1.1.2.1 R.2.2.1.2.2.2.1) (vx_cwSW 3 hts gL_law_L_pass rfl rfl rfl (by decide +kernel) ⟨Nat.le_of_ble_eq_true rfl, Nat.le_of_ble_eq_true rfl⟩) (IH.left hI).preS rfl rfl hl.1 rfl (lv_room (Nat.le_of_ble_eq_true rfl)) dL_law_2064 ⟨Nat.le_trans (Nat.add_le_add_left (c1_le _) _) hc, Nat.le_trans (Nat.add_le_add_left (c6_le _) _) hs⟩) hI hS wO_ite in_O (fun H locs hI hS => ?_)
  refine lv_istore (lv' := (6, .int _) :: lc b q q' i) hx hb dL_law_2067 hl (by decide) rfl (fun ls hl => ?_)
  refine lv_aload_n hx hb dL_law_2069 rfl (lv_at hl 4 rfl) ?_
  refine r_arg C hX hS (lv_at hl 1 rfl) (lv_at hl 2 rfl) (by decide) hX.2.2.2.1 dL_law_2070 dL_law_2071 dL_law_2073 dL_law_2074 dL_law_2075 ?_
  refine wr_i (va_runV (As := [.int (xs (i + 1).toNatClampNeg)]) (rest := []) C (c_X4_pass l D cy s.heap.size q' B T (xs (i + 1).toNatClampNeg) nk R.1.1 R.1.2.2.1 nb R.2.2.1.1.1 R.2.2.1.1.2.2 (lw_tn R)) (cwV 1 hts gL_law_X4_pass rfl rfl rfl (by decide +kernel) ⟨Nat.le_of_ble_eq_true rfl, Nat.le_of_ble_eq_true rfl⟩) ((IH.right hI).preV (k0 := 0) rfl rfl) rfl rfl hl.1 rfl (lv_room (Nat.le_of_ble_eq_true rfl)) dL_law_2076 ⟨Nat.le_trans (Nat.add_le_add_left (c1_le _) _) hc, Nat.le_trans (Nat.add_le_add_left (c6_le _) _) hs⟩) hI hS rfl in_M (fun H locs hI hS => ?_)
  refine lv_istore (lv' := (7, .int _) :: (6, .int _) :: lc b q q' i) hx hb dL_law_2079 hl (by decide) rfl (fun ls hl => ?_)
  refine tail_i C hts hI hS (by first | rfl | (split <;> first | rfl | (rename_i h9; exact h9.symm))) hl (Nat.le_trans (Nat.add_le_add_left (c1_le _) _) hc) (Nat.le_trans (Nat.add_le_add_left (c6_le _) _) hs) (s_pass R (xs (i + 1).toNatClampNeg)) (fun hex hm hg => (if_pos hm).trans hg.1.symm) (fun hex => if_pos hex) dL_law_2081 dL_law_2082 dL_law_2085 dL_law_2087 dL_law_2092 dL_law_2094 dL_law_2097 dL_law_2098 dL_law_2099 dL_law_2100 dL_law_2102 dL_law_2103 dL_law_2104 dL_law_2109 (by decide) (fun H locs ls hI hS hl => W.widen (Nat.add_le_add_left (c1_le _) _) (Nat.add_le_add_left (c6_le _) _) (kk H locs ls ?_))
  rcases (s_pass R (xs (i + 1).toNatClampNeg)) with ⟨hex, hm, hg⟩ | ⟨E, hex, -, hm⟩
  · rw [if_pos hex] at hI
    repeat rw [if_pos hm] at hI
    exact inv_mk hI hS hl hg.2
  · rw [if_neg (by rw [hex]; exact Option.some_ne_none _)] at hI
    repeat rw [if_neg hm] at hI
    exact inv_mk hI hS hl R
set_option maxHeartbeats 4000000 in
set_option maxRecDepth 100000 in
theorem lw_c30 (C : CallFix p m c cL_law 8 s args wsL_law RL) (hts : ∀ w ∈ wsL_law, w.before args s = true) (hst : l.stackTraces = false) (hX : lwS b L xs s i) (h : inv s D cy q q' b i H locs ls) (hc : cells + 1 ≤ 1089) (hs : slots + 6 ≤ 8871)
    (kk : ∀ (H : Heap) (locs : List Loc) (ls : Array Slot), inv s D cy q q' b i H locs ls → W p l e room_1 s m args below meth c H locs (cells + 1) (slots + 6) Q (F0 m 2139 ls [])) : W p l e room_1 s m args below meth c H locs cells slots Q (F0 m 2112 ls []) := by
  obtain ⟨nk, nb, nm, A, S, B, T, f, g, R, hI, hS, hl⟩ := h
  have hx := C.1
  have hb := C.2.1
  refine lv_aload_n hx hb dL_law_2112 rfl (lv_at hl 2 rfl) ?_
  refine ro_i (va_runV (As := []) (rest := []) C (c_X3_day l D cy s.heap.size q A S) (cwV 0 hts gL_law_X3_day rfl rfl rfl (by decide +kernel) ⟨Nat.le_of_ble_eq_true rfl, Nat.le_of_ble_eq_true rfl⟩) ((IH.left (IH.left hI)).preV (k0 := 0) rfl rfl) rfl rfl hl.1 rfl (lv_room (Nat.le_of_ble_eq_true rfl)) dL_law_2113 ⟨Nat.le_trans (Nat.le_add_right _ 1) hc, Nat.le_trans (Nat.le_add_right _ 6) hs⟩) hI hS (fun H locs hI hS => ?_)
  refine lv_aload_n hx hb dL_law_2116 rfl (lv_at hl 3 rfl) ?_
  refine wr_i (va_runV (As := []) (rest := [.int (S 1)]) C (c_X4_day l D cy s.heap.size q' B T) (cwV 0 hts gL_law_X4_day rfl rfl rfl (by decide +kernel) ⟨Nat.le_of_ble_eq_true rfl, Nat.le_of_ble_eq_true rfl⟩) ((IH.right hI).preV (k0 := 0) rfl rfl) rfl rfl hl.1 rfl (lv_room (Nat.le_of_ble_eq_true rfl)) dL_law_2117 ⟨Nat.le_trans (Nat.le_add_right _ 1) hc, Nat.le_trans (Nat.le_add_right _ 6) hs⟩) hI hS rfl in_M (fun H locs hI hS => ?_)
  exact lv_icmp_eq hx hb (tgt := 2139) dL_law_2120 (by decide) (fun _ => W.widen (Nat.le_add_right _ 1) (Nat.le_add_right _ 6) (kk H locs ls (inv_mk hI hS hl R))) (fun hz => absurd R.2.1.2.1 hz)
set_option maxHeartbeats 4000000 in
set_option maxRecDepth 100000 in
theorem lw_c31 (C : CallFix p m c cL_law 8 s args wsL_law RL) (hts : ∀ w ∈ wsL_law, w.before args s = true) (hst : l.stackTraces = false) (hX : lwS b L xs s i) (h : inv s D cy q q' b i H locs ls) (hc : cells + 1 ≤ 1089) (hs : slots + 6 ≤ 8871)
    (kk : ∀ (H : Heap) (locs : List Loc) (ls : Array Slot), inv s D cy q q' b i H locs ls → W p l e room_1 s m args below meth c H locs (cells + 1) (slots + 6) Q (F0 m 2139 ls [])) : W p l e room_1 s m args below meth c H locs cells slots Q (F0 m 2125 ls []) := by
  obtain ⟨nk, nb, nm, A, S, B, T, f, g, R, hI, hS, hl⟩ := h
  have hx := C.1
  have hb := C.2.1
  refine lv_aload_n hx hb dL_law_2125 rfl (lv_at hl 2 rfl) ?_
  refine ro_l (va_runV (As := []) (rest := []) C (c_X3_scoreSumBits l D cy s.heap.size q A S nb R.2.2.1.1.1 R.2.2.1.1.2.1 R.2.2.2.1.2.2) (cwV 0 hts gL_law_X3_scoreSumBits rfl rfl rfl (by decide +kernel) ⟨Nat.le_of_ble_eq_true rfl, Nat.le_of_ble_eq_true rfl⟩) ((IH.left (IH.left hI)).preV (k0 := 0) rfl rfl) rfl rfl hl.1 rfl (lv_room (Nat.le_of_ble_eq_true rfl)) dL_law_2126 ⟨Nat.le_trans (Nat.le_add_right _ 1) hc, Nat.le_trans (Nat.le_add_right _ 6) hs⟩) hI hS (fun H locs hI hS => ?_)
  refine lv_aload_n hx hb dL_law_2129 rfl (lv_at hl 3 rfl) ?_
  refine wr_l (va_runV (As := []) (rest := [.long ((dsF A nb).toInt64)]) C (c_X4_scoreSumBits l D cy s.heap.size q' B T nk R.1.1 R.1.2.2.1 nb R.2.2.1.1.1 R.2.2.1.1.2.2 (lw_wk R)) (cwV 0 hts gL_law_X4_scoreSumBits rfl rfl rfl (by decide +kernel) ⟨Nat.le_of_ble_eq_true rfl, Nat.le_of_ble_eq_true rfl⟩) ((IH.right hI).preV (k0 := 0) rfl rfl) rfl rfl hl.1 rfl (lv_room (Nat.le_of_ble_eq_true rfl)) dL_law_2130 ⟨Nat.le_trans (Nat.le_add_right _ 1) hc, Nat.le_trans (Nat.le_add_right _ 6) hs⟩) hI hS rfl in_M (fun H locs hI hS => ?_)
  refine W.lcmp hx hb dL_law_2133 ?_
  refine lv_if_eq hx hb (tgt := 2139) dL_law_2134 (by decide) (fun _ => W.widen (Nat.le_add_right _ 1) (Nat.le_add_right _ 6) (kk H locs ls (inv_mk hI hS hl R))) (fun hz => absurd ?_ hz)
  rw [s_sum R]
  simp [lg_cmp, Int64.lt_irrefl]
end CASES4
