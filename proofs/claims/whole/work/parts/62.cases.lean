/-! The law's cases 12 to 17. Rows by wip/whole/gen/part60.py. -/
section CASES2
variable {p : Program} {l : Launch} {e : Env} {s : State} {m : MethodId} {args : Array Value} {below : List Frame} {meth : Method} {c : Code} {H : Heap} {locs : List Loc} {cells slots : Nat} {Q : State → Prop}
variable {ls : Array Slot} {D : va_G} {cy : Nat → ClassId} {b L : Nat} {xs : Nat → Int32} {i : Int32} {q q' : Nat → Nat}
set_option maxHeartbeats 4000000 in
set_option maxRecDepth 100000 in
theorem lw_c12 (C : CallFix p m c cL_law 8 s args wsL_law RL) (hts : ∀ w ∈ wsL_law, w.before args s = true) (hst : l.stackTraces = false) (hX : lwS b L xs s i) (h : inv s D cy q q' b i H locs ls) (hc : cells + 1 ≤ 1089) (hs : slots + 6 ≤ 8871)
    (kk : ∀ (H : Heap) (locs : List Loc) (ls : Array Slot), inv s D cy q q' b i H locs ls → W p l e room_1 s m args below meth c H locs (cells + 1) (slots + 6) Q (F0 m 2139 ls [])) : W p l e room_1 s m args below meth c H locs cells slots Q (F0 m 970 ls []) := by
  obtain ⟨nk, nb, nm, A, S, B, T, f, g, R, hI, hS, hl⟩ := h
  have hx := C.1
  have hb := C.2.1
  refine lv_aload_n hx hb dL_law_970 rfl (lv_at hl 2 rfl) ?_
  refine r_arg C hX hS (lv_at hl 0 rfl) (lv_at hl 1 rfl) (by decide) hX.2.2.2.1 dL_law_971 dL_law_972 dL_law_974 dL_law_975 dL_law_976 ?_
  refine r_arg C hX hS (lv_at hl 0 rfl) (lv_at hl 1 rfl) (by decide) hX.2.2.2.2.1 dL_law_977 dL_law_978 dL_law_980 dL_law_981 dL_law_982 ?_
  refine lv_aload_n hx hb dL_law_983 rfl (lv_at hl 4 rfl) ?_
  refine wl_i (vx_runSW (As := [.ref (q 0), .int (xs (i + 1).toNatClampNeg), .int (xs (i + 2).toNatClampNeg), .ref (q 19)]) (rest := []) C (c_L_attest l hst D cy s.heap.size q A S f g (xs (i + 1).toNatClampNeg) (xs (i + 2).toNatClampNeg) nk R.1.1 R.1.2.1 nb R.2.2.1.1.1 R.2.2.1.1.2.1) (vx_cwSW 4 hts gL_law_L_attest rfl rfl rfl (by decide +kernel) ⟨Nat.le_of_ble_eq_true rfl, Nat.le_of_ble_eq_true rfl⟩) (IH.left hI).preS rfl rfl hl.1 rfl (lv_room (Nat.le_of_ble_eq_true rfl)) dL_law_984 ⟨Nat.le_trans (Nat.add_le_add_left (c1_le _) _) hc, Nat.le_trans (Nat.add_le_add_left (c6_le _) _) hs⟩) hI hS wO_ite in_O (fun H locs hI hS => ?_)
  refine lv_istore (lv' := (6, .int _) :: lc b q q' i) hx hb dL_law_987 hl (by decide) rfl (fun ls hl => ?_)
  refine lv_aload_n hx hb dL_law_989 rfl (lv_at hl 4 rfl) ?_
  refine r_arg C hX hS (lv_at hl 1 rfl) (lv_at hl 2 rfl) (by decide) hX.2.2.2.1 dL_law_990 dL_law_991 dL_law_993 dL_law_994 dL_law_995 ?_
  refine r_arg C hX hS (lv_at hl 1 rfl) (lv_at hl 2 rfl) (by decide) hX.2.2.2.2.1 dL_law_996 dL_law_997 dL_law_999 dL_law_1000 dL_law_1001 ?_
  refine wr_i (va_runV (As := [.int (xs (i + 1).toNatClampNeg), .int (xs (i + 2).toNatClampNeg)]) (rest := []) C (c_X4_attest l D cy s.heap.size q' B T (xs (i + 1).toNatClampNeg) (xs (i + 2).toNatClampNeg) nk R.1.1 R.1.2.2.1 nb R.2.2.1.1.1 R.2.2.1.1.2.2) (cwV 2 hts gL_law_X4_attest rfl rfl rfl (by decide +kernel) ⟨Nat.le_of_ble_eq_true rfl, Nat.le_of_ble_eq_true rfl⟩) ((IH.right hI).preV (k0 := 0) rfl rfl) rfl rfl hl.1 rfl (lv_room (Nat.le_of_ble_eq_true rfl)) dL_law_1002 ⟨Nat.le_trans (Nat.add_le_add_left (c1_le _) _) hc, Nat.le_trans (Nat.add_le_add_left (c6_le _) _) hs⟩) hI hS rfl in_M (fun H locs hI hS => ?_)
  refine lv_istore (lv' := (7, .int _) :: (6, .int _) :: lc b q q' i) hx hb dL_law_1005 hl (by decide) rfl (fun ls hl => ?_)
  refine tail_i C hts hI hS (by first | rfl | (split <;> first | rfl | (rename_i h9; exact h9.symm))) hl (Nat.le_trans (Nat.add_le_add_left (c1_le _) _) hc) (Nat.le_trans (Nat.add_le_add_left (c6_le _) _) hs) (s_attest R (xs (i + 1).toNatClampNeg) (xs (i + 2).toNatClampNeg)) (fun hex hm hg => (if_pos hm).trans hg.1.symm) (fun hex => if_pos hex) dL_law_1007 dL_law_1008 dL_law_1011 dL_law_1013 dL_law_1018 dL_law_1020 dL_law_1023 dL_law_1024 dL_law_1025 dL_law_1026 dL_law_1028 dL_law_1029 dL_law_1030 dL_law_1035 (by decide) (fun H locs ls hI hS hl => W.widen (Nat.add_le_add_left (c1_le _) _) (Nat.add_le_add_left (c6_le _) _) (kk H locs ls ?_))
  rcases (s_attest R (xs (i + 1).toNatClampNeg) (xs (i + 2).toNatClampNeg)) with ⟨hex, hm, hg⟩ | ⟨E, hex, -, hm⟩
  · rw [if_pos hex] at hI
    repeat rw [if_pos hm] at hI
    exact inv_mk hI hS hl hg.2
  · rw [if_neg (by rw [hex]; exact Option.some_ne_none _)] at hI
    repeat rw [if_neg hm] at hI
    exact inv_mk hI hS hl R
set_option maxHeartbeats 4000000 in
set_option maxRecDepth 100000 in
theorem lw_c13 (C : CallFix p m c cL_law 8 s args wsL_law RL) (hts : ∀ w ∈ wsL_law, w.before args s = true) (hst : l.stackTraces = false) (hX : lwS b L xs s i) (h : inv s D cy q q' b i H locs ls) (hc : cells + 1 ≤ 1089) (hs : slots + 6 ≤ 8871)
    (kk : ∀ (H : Heap) (locs : List Loc) (ls : Array Slot), inv s D cy q q' b i H locs ls → W p l e room_1 s m args below meth c H locs (cells + 1) (slots + 6) Q (F0 m 2139 ls [])) : W p l e room_1 s m args below meth c H locs cells slots Q (F0 m 1038 ls []) := by
  obtain ⟨nk, nb, nm, A, S, B, T, f, g, R, hI, hS, hl⟩ := h
  have hx := C.1
  have hb := C.2.1
  refine lv_aload_n hx hb dL_law_1038 rfl (lv_at hl 2 rfl) ?_
  refine r_arg C hX hS (lv_at hl 0 rfl) (lv_at hl 1 rfl) (by decide) hX.2.2.2.1 dL_law_1039 dL_law_1040 dL_law_1042 dL_law_1043 dL_law_1044 ?_
  refine r_arg C hX hS (lv_at hl 0 rfl) (lv_at hl 1 rfl) (by decide) hX.2.2.2.2.1 dL_law_1045 dL_law_1046 dL_law_1048 dL_law_1049 dL_law_1050 ?_
  refine lv_aload_n hx hb dL_law_1051 rfl (lv_at hl 4 rfl) ?_
  refine wl_i (vx_runSW (As := [.ref (q 0), .int (xs (i + 1).toNatClampNeg), .int (xs (i + 2).toNatClampNeg), .ref (q 19)]) (rest := []) C (c_L_vouches l hst D cy s.heap.size q A S f g (xs (i + 1).toNatClampNeg) (xs (i + 2).toNatClampNeg) nb R.2.2.1.1.1 R.2.2.1.1.2.1) (vx_cwSW 4 hts gL_law_L_vouches rfl rfl rfl (by decide +kernel) ⟨Nat.le_of_ble_eq_true rfl, Nat.le_of_ble_eq_true rfl⟩) (IH.left hI).preS rfl rfl hl.1 rfl (lv_room (Nat.le_of_ble_eq_true rfl)) dL_law_1052 ⟨Nat.le_trans (Nat.add_le_add_left (c1_le _) _) hc, Nat.le_trans (Nat.add_le_add_left (c6_le _) _) hs⟩) hI hS wO_ite in_O (fun H locs hI hS => ?_)
  refine lv_istore (lv' := (6, .int _) :: lc b q q' i) hx hb dL_law_1055 hl (by decide) rfl (fun ls hl => ?_)
  refine lv_aload_n hx hb dL_law_1057 rfl (lv_at hl 4 rfl) ?_
  refine r_arg C hX hS (lv_at hl 1 rfl) (lv_at hl 2 rfl) (by decide) hX.2.2.2.1 dL_law_1058 dL_law_1059 dL_law_1061 dL_law_1062 dL_law_1063 ?_
  refine r_arg C hX hS (lv_at hl 1 rfl) (lv_at hl 2 rfl) (by decide) hX.2.2.2.2.1 dL_law_1064 dL_law_1065 dL_law_1067 dL_law_1068 dL_law_1069 ?_
  refine wr_i (va_runV (As := [.int (xs (i + 1).toNatClampNeg), .int (xs (i + 2).toNatClampNeg)]) (rest := []) C (c_X4_vouches l D cy s.heap.size q' B T (xs (i + 1).toNatClampNeg) (xs (i + 2).toNatClampNeg) nk R.1.1 R.1.2.2.1 nb R.2.2.1.1.1 R.2.2.1.1.2.2) (cwV 2 hts gL_law_X4_vouches rfl rfl rfl (by decide +kernel) ⟨Nat.le_of_ble_eq_true rfl, Nat.le_of_ble_eq_true rfl⟩) ((IH.right hI).preV (k0 := 0) rfl rfl) rfl rfl hl.1 rfl (lv_room (Nat.le_of_ble_eq_true rfl)) dL_law_1070 ⟨Nat.le_trans (Nat.add_le_add_left (c1_le _) _) hc, Nat.le_trans (Nat.add_le_add_left (c6_le _) _) hs⟩) hI hS rfl in_M (fun H locs hI hS => ?_)
  refine lv_istore (lv' := (7, .int _) :: (6, .int _) :: lc b q q' i) hx hb dL_law_1073 hl (by decide) rfl (fun ls hl => ?_)
  refine tail_b C hts hI hS (by first | rfl | (split <;> first | rfl | (rename_i h9; exact h9.symm))) hl (Nat.le_trans (Nat.add_le_add_left (c1_le _) _) hc) (Nat.le_trans (Nat.add_le_add_left (c6_le _) _) hs) (s_vouches R (xs (i + 1).toNatClampNeg) (xs (i + 2).toNatClampNeg)) (fun hex hm hg => hg.symm) (bI_01 _) (fun hex => if_pos hex) dL_law_1075 dL_law_1076 dL_law_1079 dL_law_1081 dL_law_1086 dL_law_1088 dL_law_1091 dL_law_1092 dL_law_1093 dL_law_1094 dL_law_1096 dL_law_1099 dL_law_1100 dL_law_1103 dL_law_1104 dL_law_1105 dL_law_1110 (by decide) (fun H locs ls hI hS hl => W.widen (Nat.add_le_add_left (c1_le _) _) (Nat.add_le_add_left (c6_le _) _) (kk H locs ls ?_))
  rcases (s_vouches R (xs (i + 1).toNatClampNeg) (xs (i + 2).toNatClampNeg)) with ⟨hex, hm, hg⟩ | ⟨E, hex, -, hm⟩
  · rw [if_pos hex] at hI
    repeat rw [if_pos hm] at hI
    exact inv_mk hI hS hl R
  · rw [if_neg (by rw [hex]; exact Option.some_ne_none _)] at hI
    repeat rw [if_neg hm] at hI
    exact inv_mk hI hS hl R
set_option maxHeartbeats 4000000 in
set_option maxRecDepth 100000 in
theorem lw_c14 (C : CallFix p m c cL_law 8 s args wsL_law RL) (hts : ∀ w ∈ wsL_law, w.before args s = true) (hst : l.stackTraces = false) (hX : lwS b L xs s i) (h : inv s D cy q q' b i H locs ls) (hc : cells + 1 ≤ 1089) (hs : slots + 6 ≤ 8871)
    (kk : ∀ (H : Heap) (locs : List Loc) (ls : Array Slot), inv s D cy q q' b i H locs ls → W p l e room_1 s m args below meth c H locs (cells + 1) (slots + 6) Q (F0 m 2139 ls [])) : W p l e room_1 s m args below meth c H locs cells slots Q (F0 m 1113 ls []) := by
  obtain ⟨nk, nb, nm, A, S, B, T, f, g, R, hI, hS, hl⟩ := h
  have hx := C.1
  have hb := C.2.1
  refine lv_aload_n hx hb dL_law_1113 rfl (lv_at hl 2 rfl) ?_
  refine r_arg C hX hS (lv_at hl 0 rfl) (lv_at hl 1 rfl) (by decide) hX.2.2.2.1 dL_law_1114 dL_law_1115 dL_law_1117 dL_law_1118 dL_law_1119 ?_
  refine r_arg C hX hS (lv_at hl 0 rfl) (lv_at hl 1 rfl) (by decide) hX.2.2.2.2.1 dL_law_1120 dL_law_1121 dL_law_1123 dL_law_1124 dL_law_1125 ?_
  refine lv_aload_n hx hb dL_law_1126 rfl (lv_at hl 4 rfl) ?_
  refine wl_i (vx_runSW (As := [.ref (q 0), .int (xs (i + 1).toNatClampNeg), .int (xs (i + 2).toNatClampNeg), .ref (q 19)]) (rest := []) C (c_L_vouchesByList l hst D cy s.heap.size q A S f g (xs (i + 1).toNatClampNeg) (xs (i + 2).toNatClampNeg) nk R.1.1 R.1.2.1 nb R.2.2.1.1.1 R.2.2.1.1.2.1) (vx_cwSW 4 hts gL_law_L_vouchesByList rfl rfl rfl (by decide +kernel) ⟨Nat.le_of_ble_eq_true rfl, Nat.le_of_ble_eq_true rfl⟩) (IH.left hI).preS rfl rfl hl.1 rfl (lv_room (Nat.le_of_ble_eq_true rfl)) dL_law_1127 ⟨Nat.le_trans (Nat.add_le_add_left (c1_le _) _) hc, Nat.le_trans (Nat.add_le_add_left (c6_le _) _) hs⟩) hI hS wO_ite in_O (fun H locs hI hS => ?_)
  refine lv_istore (lv' := (6, .int _) :: lc b q q' i) hx hb dL_law_1130 hl (by decide) rfl (fun ls hl => ?_)
  refine lv_aload_n hx hb dL_law_1132 rfl (lv_at hl 4 rfl) ?_
  refine r_arg C hX hS (lv_at hl 1 rfl) (lv_at hl 2 rfl) (by decide) hX.2.2.2.1 dL_law_1133 dL_law_1134 dL_law_1136 dL_law_1137 dL_law_1138 ?_
  refine r_arg C hX hS (lv_at hl 1 rfl) (lv_at hl 2 rfl) (by decide) hX.2.2.2.2.1 dL_law_1139 dL_law_1140 dL_law_1142 dL_law_1143 dL_law_1144 ?_
  refine wr_i (va_runV (As := [.int (xs (i + 1).toNatClampNeg), .int (xs (i + 2).toNatClampNeg)]) (rest := []) C (c_X4_vouchesByList l D cy s.heap.size q' B T (xs (i + 1).toNatClampNeg) (xs (i + 2).toNatClampNeg) nk R.1.1 R.1.2.2.1 nb R.2.2.1.1.1 R.2.2.1.1.2.2) (cwV 2 hts gL_law_X4_vouchesByList rfl rfl rfl (by decide +kernel) ⟨Nat.le_of_ble_eq_true rfl, Nat.le_of_ble_eq_true rfl⟩) ((IH.right hI).preV (k0 := 0) rfl rfl) rfl rfl hl.1 rfl (lv_room (Nat.le_of_ble_eq_true rfl)) dL_law_1145 ⟨Nat.le_trans (Nat.add_le_add_left (c1_le _) _) hc, Nat.le_trans (Nat.add_le_add_left (c6_le _) _) hs⟩) hI hS rfl in_M (fun H locs hI hS => ?_)
  refine lv_istore (lv' := (7, .int _) :: (6, .int _) :: lc b q q' i) hx hb dL_law_1148 hl (by decide) rfl (fun ls hl => ?_)
  refine tail_b C hts hI hS (by first | rfl | (split <;> first | rfl | (rename_i h9; exact h9.symm))) hl (Nat.le_trans (Nat.add_le_add_left (c1_le _) _) hc) (Nat.le_trans (Nat.add_le_add_left (c6_le _) _) hs) (s_vouchesByList R (xs (i + 1).toNatClampNeg) (xs (i + 2).toNatClampNeg)) (fun hex hm hg => hg.symm) (bI_01 _) (fun hex => if_pos hex) dL_law_1150 dL_law_1151 dL_law_1154 dL_law_1156 dL_law_1161 dL_law_1163 dL_law_1166 dL_law_1167 dL_law_1168 dL_law_1169 dL_law_1171 dL_law_1174 dL_law_1175 dL_law_1178 dL_law_1179 dL_law_1180 dL_law_1185 (by decide) (fun H locs ls hI hS hl => W.widen (Nat.add_le_add_left (c1_le _) _) (Nat.add_le_add_left (c6_le _) _) (kk H locs ls ?_))
  rcases (s_vouchesByList R (xs (i + 1).toNatClampNeg) (xs (i + 2).toNatClampNeg)) with ⟨hex, hm, hg⟩ | ⟨E, hex, -, hm⟩
  · rw [if_pos hex] at hI
    repeat rw [if_pos hm] at hI
    exact inv_mk hI hS hl R
  · rw [if_neg (by rw [hex]; exact Option.some_ne_none _)] at hI
    repeat rw [if_neg hm] at hI
    exact inv_mk hI hS hl R
set_option maxHeartbeats 4000000 in
set_option maxRecDepth 100000 in
theorem lw_c15 (C : CallFix p m c cL_law 8 s args wsL_law RL) (hts : ∀ w ∈ wsL_law, w.before args s = true) (hst : l.stackTraces = false) (hX : lwS b L xs s i) (h : inv s D cy q q' b i H locs ls) (hc : cells + 1 ≤ 1089) (hs : slots + 6 ≤ 8871)
    (kk : ∀ (H : Heap) (locs : List Loc) (ls : Array Slot), inv s D cy q q' b i H locs ls → W p l e room_1 s m args below meth c H locs (cells + 1) (slots + 6) Q (F0 m 2139 ls [])) : W p l e room_1 s m args below meth c H locs cells slots Q (F0 m 1188 ls []) := by
  obtain ⟨nk, nb, nm, A, S, B, T, f, g, R, hI, hS, hl⟩ := h
  have hx := C.1
  have hb := C.2.1
  refine lv_aload_n hx hb dL_law_1188 rfl (lv_at hl 2 rfl) ?_
  refine r_arg C hX hS (lv_at hl 0 rfl) (lv_at hl 1 rfl) (by decide) hX.2.2.2.1 dL_law_1189 dL_law_1190 dL_law_1192 dL_law_1193 dL_law_1194 ?_
  refine lv_aload hx hb dL_law_1195 (lv_at hl 5 rfl) ?_
  refine wl_i (vx_runSW (As := [.ref (q 0), .int (xs (i + 1).toNatClampNeg), .ref (q 20)]) (rest := []) C (c_L_score l hst D cy s.heap.size q A S f g (xs (i + 1).toNatClampNeg) nb R.2.2.1.1.1 R.2.2.1.1.2.1 R.2.2.2.1.2.2) (vx_cwSW 3 hts gL_law_L_score rfl rfl rfl (by decide +kernel) ⟨Nat.le_of_ble_eq_true rfl, Nat.le_of_ble_eq_true rfl⟩) (IH.left hI).preS rfl rfl hl.1 rfl (lv_room (Nat.le_of_ble_eq_true rfl)) dL_law_1197 ⟨Nat.le_trans (Nat.add_le_add_left (c1_le _) _) hc, Nat.le_trans (Nat.add_le_add_left (c6_le _) _) hs⟩) hI hS wO_ite in_O (fun H locs hI hS => ?_)
  refine lv_istore (lv' := (6, .int _) :: lc b q q' i) hx hb dL_law_1200 hl (by decide) rfl (fun ls hl => ?_)
  refine lv_aload_n hx hb dL_law_1202 rfl (lv_at hl 4 rfl) ?_
  refine r_arg C hX hS (lv_at hl 1 rfl) (lv_at hl 2 rfl) (by decide) hX.2.2.2.1 dL_law_1203 dL_law_1204 dL_law_1206 dL_law_1207 dL_law_1208 ?_
  refine wr_f (va_runV (As := [.int (xs (i + 1).toNatClampNeg)]) (rest := []) C (c_X4_score l D cy s.heap.size q' B T (xs (i + 1).toNatClampNeg) nk R.1.1 R.1.2.2.1 nb R.2.2.1.1.1 R.2.2.1.1.2.2) (cwV 1 hts gL_law_X4_score rfl rfl rfl (by decide +kernel) ⟨Nat.le_of_ble_eq_true rfl, Nat.le_of_ble_eq_true rfl⟩) ((IH.right hI).preV (k0 := 0) rfl rfl) rfl rfl hl.1 rfl (lv_room (Nat.le_of_ble_eq_true rfl)) dL_law_1209 ⟨Nat.le_trans (Nat.add_le_add_left (c1_le _) _) hc, Nat.le_trans (Nat.add_le_add_left (c6_le _) _) hs⟩) hI hS rfl in_M (fun H locs hI hS => ?_)
  refine lv_fstore (lv' := (7, .float _) :: (6, .int _) :: lc b q q' i) hx hb dL_law_1212 hl (by decide) rfl (fun ls hl => ?_)
  refine tail_f C hts hI hS (by first | rfl | (split <;> first | rfl | (rename_i h9; exact h9.symm))) hl (Nat.le_trans (Nat.add_le_add_left (c1_le _) _) hc) (Nat.le_trans (Nat.add_le_add_left (c6_le _) _) hs) (s_score R (xs (i + 1).toNatClampNeg)) (fun hex hm hg => ⟨(if_pos hm).trans hg.symm, (sOK_fin (sc_ok R.2.2.2.1.2.2 _ 4 (by decide)) (by decide) (by decide)).notNaN⟩) (fun hex => if_pos hex) dL_law_1214 dL_law_1215 dL_law_1218 dL_law_1220 dL_law_1225 dL_law_1227 dL_law_1230 dL_law_1232 dL_law_1233 dL_law_1234 dL_law_1236 dL_law_1237 dL_law_1238 dL_law_1263 (by decide) (fun H locs ls hI hS hl => W.widen (Nat.add_le_add_left (c1_le _) _) (Nat.add_le_add_left (c6_le _) _) (kk H locs ls ?_))
  rcases (s_score R (xs (i + 1).toNatClampNeg)) with ⟨hex, hm, hg⟩ | ⟨E, hex, -, hm⟩
  · rw [if_pos hex] at hI
    repeat rw [if_pos hm] at hI
    exact inv_mk hI hS hl R
  · rw [if_neg (by rw [hex]; exact Option.some_ne_none _)] at hI
    repeat rw [if_neg hm] at hI
    exact inv_mk hI hS hl R
set_option maxHeartbeats 4000000 in
set_option maxRecDepth 100000 in
theorem lw_c16 (C : CallFix p m c cL_law 8 s args wsL_law RL) (hts : ∀ w ∈ wsL_law, w.before args s = true) (hst : l.stackTraces = false) (hX : lwS b L xs s i) (h : inv s D cy q q' b i H locs ls) (hc : cells + 1 ≤ 1089) (hs : slots + 6 ≤ 8871)
    (kk : ∀ (H : Heap) (locs : List Loc) (ls : Array Slot), inv s D cy q q' b i H locs ls → W p l e room_1 s m args below meth c H locs (cells + 1) (slots + 6) Q (F0 m 2139 ls [])) : W p l e room_1 s m args below meth c H locs cells slots Q (F0 m 1266 ls []) := by
  obtain ⟨nk, nb, nm, A, S, B, T, f, g, R, hI, hS, hl⟩ := h
  have hx := C.1
  have hb := C.2.1
  refine lv_aload_n hx hb dL_law_1266 rfl (lv_at hl 2 rfl) ?_
  refine r_arg C hX hS (lv_at hl 0 rfl) (lv_at hl 1 rfl) (by decide) hX.2.2.2.1 dL_law_1267 dL_law_1268 dL_law_1270 dL_law_1271 dL_law_1272 ?_
  refine lv_aload_n hx hb dL_law_1273 rfl (lv_at hl 4 rfl) ?_
  refine wl_i (vx_runSW (As := [.ref (q 0), .int (xs (i + 1).toNatClampNeg), .ref (q 19)]) (rest := []) C (c_L_scoreBits l hst D cy s.heap.size q A S f g (xs (i + 1).toNatClampNeg) nb R.2.2.1.1.1 R.2.2.1.1.2.1 R.2.2.2.1.2.2) (vx_cwSW 3 hts gL_law_L_scoreBits rfl rfl rfl (by decide +kernel) ⟨Nat.le_of_ble_eq_true rfl, Nat.le_of_ble_eq_true rfl⟩) (IH.left hI).preS rfl rfl hl.1 rfl (lv_room (Nat.le_of_ble_eq_true rfl)) dL_law_1274 ⟨Nat.le_trans (Nat.add_le_add_left (c1_le _) _) hc, Nat.le_trans (Nat.add_le_add_left (c6_le _) _) hs⟩) hI hS wO_ite in_O (fun H locs hI hS => ?_)
  refine lv_istore (lv' := (6, .int _) :: lc b q q' i) hx hb dL_law_1277 hl (by decide) rfl (fun ls hl => ?_)
  refine lv_aload_n hx hb dL_law_1279 rfl (lv_at hl 4 rfl) ?_
  refine r_arg C hX hS (lv_at hl 1 rfl) (lv_at hl 2 rfl) (by decide) hX.2.2.2.1 dL_law_1280 dL_law_1281 dL_law_1283 dL_law_1284 dL_law_1285 ?_
  refine wr_i (va_runV (As := [.int (xs (i + 1).toNatClampNeg)]) (rest := []) C (c_X4_scoreBits l D cy s.heap.size q' B T (xs (i + 1).toNatClampNeg) nk R.1.1 R.1.2.2.1 nb R.2.2.1.1.1 R.2.2.1.1.2.2) (cwV 1 hts gL_law_X4_scoreBits rfl rfl rfl (by decide +kernel) ⟨Nat.le_of_ble_eq_true rfl, Nat.le_of_ble_eq_true rfl⟩) ((IH.right hI).preV (k0 := 0) rfl rfl) rfl rfl hl.1 rfl (lv_room (Nat.le_of_ble_eq_true rfl)) dL_law_1286 ⟨Nat.le_trans (Nat.add_le_add_left (c1_le _) _) hc, Nat.le_trans (Nat.add_le_add_left (c6_le _) _) hs⟩) hI hS rfl in_M (fun H locs hI hS => ?_)
  refine lv_istore (lv' := (7, .int _) :: (6, .int _) :: lc b q q' i) hx hb dL_law_1289 hl (by decide) rfl (fun ls hl => ?_)
  refine tail_i C hts hI hS (by first | rfl | (split <;> first | rfl | (rename_i h9; exact h9.symm))) hl (Nat.le_trans (Nat.add_le_add_left (c1_le _) _) hc) (Nat.le_trans (Nat.add_le_add_left (c6_le _) _) hs) (s_score R (xs (i + 1).toNatClampNeg)) (fun hex hm hg => by rw [if_pos hm, ← hg]) (fun hex => if_pos hex) dL_law_1291 dL_law_1292 dL_law_1295 dL_law_1297 dL_law_1302 dL_law_1304 dL_law_1307 dL_law_1308 dL_law_1309 dL_law_1310 dL_law_1312 dL_law_1313 dL_law_1314 dL_law_1319 (by decide) (fun H locs ls hI hS hl => W.widen (Nat.add_le_add_left (c1_le _) _) (Nat.add_le_add_left (c6_le _) _) (kk H locs ls ?_))
  rcases (s_score R (xs (i + 1).toNatClampNeg)) with ⟨hex, hm, hg⟩ | ⟨E, hex, -, hm⟩
  · rw [if_pos hex] at hI
    repeat rw [if_pos hm] at hI
    exact inv_mk hI hS hl R
  · rw [if_neg (by rw [hex]; exact Option.some_ne_none _)] at hI
    repeat rw [if_neg hm] at hI
    exact inv_mk hI hS hl R
set_option maxHeartbeats 4000000 in
set_option maxRecDepth 100000 in
theorem lw_c17 (C : CallFix p m c cL_law 8 s args wsL_law RL) (hts : ∀ w ∈ wsL_law, w.before args s = true) (hst : l.stackTraces = false) (hX : lwS b L xs s i) (h : inv s D cy q q' b i H locs ls) (hc : cells + 1 ≤ 1089) (hs : slots + 6 ≤ 8871)
    (kk : ∀ (H : Heap) (locs : List Loc) (ls : Array Slot), inv s D cy q q' b i H locs ls → W p l e room_1 s m args below meth c H locs (cells + 1) (slots + 6) Q (F0 m 2139 ls [])) : W p l e room_1 s m args below meth c H locs cells slots Q (F0 m 1322 ls []) := by
  obtain ⟨nk, nb, nm, A, S, B, T, f, g, R, hI, hS, hl⟩ := h
  have hx := C.1
  have hb := C.2.1
  refine lv_aload_n hx hb dL_law_1322 rfl (lv_at hl 2 rfl) ?_
  refine r_arg C hX hS (lv_at hl 0 rfl) (lv_at hl 1 rfl) (by decide) hX.2.2.2.1 dL_law_1323 dL_law_1324 dL_law_1326 dL_law_1327 dL_law_1328 ?_
  refine lv_aload_n hx hb dL_law_1329 rfl (lv_at hl 4 rfl) ?_
  refine wl_i (vx_runSW (As := [.ref (q 0), .int (xs (i + 1).toNatClampNeg), .ref (q 19)]) (rest := []) C (c_L_isTrusted l hst D cy s.heap.size q A S f g (xs (i + 1).toNatClampNeg) nb R.2.2.1.1.1 R.2.2.1.1.2.1 R.2.2.1.2.2.2.1) (vx_cwSW 3 hts gL_law_L_isTrusted rfl rfl rfl (by decide +kernel) ⟨Nat.le_of_ble_eq_true rfl, Nat.le_of_ble_eq_true rfl⟩) (IH.left hI).preS rfl rfl hl.1 rfl (lv_room (Nat.le_of_ble_eq_true rfl)) dL_law_1330 ⟨Nat.le_trans (Nat.add_le_add_left (c1_le _) _) hc, Nat.le_trans (Nat.add_le_add_left (c6_le _) _) hs⟩) hI hS wO_ite in_O (fun H locs hI hS => ?_)
  refine lv_istore (lv' := (6, .int _) :: lc b q q' i) hx hb dL_law_1333 hl (by decide) rfl (fun ls hl => ?_)
  refine lv_aload_n hx hb dL_law_1335 rfl (lv_at hl 4 rfl) ?_
  refine r_arg C hX hS (lv_at hl 1 rfl) (lv_at hl 2 rfl) (by decide) hX.2.2.2.1 dL_law_1336 dL_law_1337 dL_law_1339 dL_law_1340 dL_law_1341 ?_
  refine wr_i (va_runV (As := [.int (xs (i + 1).toNatClampNeg)]) (rest := []) C (c_X4_isTrusted l D cy s.heap.size q' B T (xs (i + 1).toNatClampNeg) nk R.1.1 R.1.2.2.1 nb R.2.2.1.1.1 R.2.2.1.1.2.2 (lw_tn R)) (cwV 1 hts gL_law_X4_isTrusted rfl rfl rfl (by decide +kernel) ⟨Nat.le_of_ble_eq_true rfl, Nat.le_of_ble_eq_true rfl⟩) ((IH.right hI).preV (k0 := 0) rfl rfl) rfl rfl hl.1 rfl (lv_room (Nat.le_of_ble_eq_true rfl)) dL_law_1342 ⟨Nat.le_trans (Nat.add_le_add_left (c1_le _) _) hc, Nat.le_trans (Nat.add_le_add_left (c6_le _) _) hs⟩) hI hS rfl in_M (fun H locs hI hS => ?_)
  refine lv_istore (lv' := (7, .int _) :: (6, .int _) :: lc b q q' i) hx hb dL_law_1345 hl (by decide) rfl (fun ls hl => ?_)
  refine tail_b C hts hI hS (by first | rfl | (split <;> first | rfl | (rename_i h9; exact h9.symm))) hl (Nat.le_trans (Nat.add_le_add_left (c1_le _) _) hc) (Nat.le_trans (Nat.add_le_add_left (c6_le _) _) hs) (s_isTrusted R (xs (i + 1).toNatClampNeg)) (fun hex hm hg => hg.symm) (bI_01 _) (fun hex => if_pos hex) dL_law_1347 dL_law_1348 dL_law_1351 dL_law_1353 dL_law_1358 dL_law_1360 dL_law_1363 dL_law_1364 dL_law_1365 dL_law_1366 dL_law_1368 dL_law_1371 dL_law_1372 dL_law_1375 dL_law_1376 dL_law_1377 dL_law_1382 (by decide) (fun H locs ls hI hS hl => W.widen (Nat.add_le_add_left (c1_le _) _) (Nat.add_le_add_left (c6_le _) _) (kk H locs ls ?_))
  rcases (s_isTrusted R (xs (i + 1).toNatClampNeg)) with ⟨hex, hm, hg⟩ | ⟨E, hex, -, hm⟩
  · rw [if_pos hex] at hI
    repeat rw [if_pos hm] at hI
    exact inv_mk hI hS hl R
  · rw [if_neg (by rw [hex]; exact Option.some_ne_none _)] at hI
    repeat rw [if_neg hm] at hI
    exact inv_mk hI hS hl R
end CASES2
