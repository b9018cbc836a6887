/-! The law's round (the switch), its loop, its start. Written by wip/whole/gen/part70.py. -/
theorem and31 (x : Int32) : ∃ k, k < 32 ∧ x &&& 31 = nI k := by
  refine ⟨(x &&& 31).toBitVec.toNat, ?_, ?_⟩
  · rw [Int32.toBitVec_and, BitVec.toNat_and]
    exact Nat.lt_of_le_of_lt Nat.and_le_right (by decide)
  · apply Int32.toBitVec_inj.mp
    show _ = BitVec.ofNat 32 _
    rw [BitVec.ofNat_toNat, BitVec.setWidth_eq]
theorem nI_sub4 {L r : Nat} (hL : L ≤ 2048) (hr : r ≤ 512) : (Int32.ofNat L - 4 < nI (4 * r)) ↔ L < 4 * r + 4 := by
  rcases Nat.lt_or_ge L 4 with z | z
  · have h0 : (Int32.ofNat L - 4).toInt < 0 := (by decide : ∀ k : Fin 4, (Int32.ofNat k.val - 4).toInt < 0) ⟨L, z⟩
    rw [fa_lt, nI_toInt (show 4 * r < 2 ^ 31 by omega)]
    omega
  · obtain ⟨k, rfl⟩ : ∃ k, L = k + 4 := ⟨L - 4, by omega⟩
    have e : Int32.ofNat (k + 4) - 4 = nI k := by
      rw [show Int32.ofNat (k + 4) = nI k + 4 from (nI_add k 4).symm]
      exact Int32.add_sub_cancel _ _
    rw [e, fa_lt, nI_toInt (show k < 2 ^ 31 by omega), nI_toInt (show 4 * r < 2 ^ 31 by omega)]
    omega
section LOOP
variable {p : Program} {l : Launch} {e : Env} {s : State} {m : MethodId} {args : Array Value} {below : List Frame} {meth : Method} {c : Code} {H : Heap} {locs : List Loc} {cells slots : Nat} {Q : State → Prop}
variable {ls : Array Slot} {D : va_G} {cy : Nat → ClassId} {b L : Nat} {xs : Nat → Int32} {i : Int32} {q q' : Nat → Nat}
set_option maxHeartbeats 4000000 in
set_option maxRecDepth 100000 in
theorem lw_round (C : CallFix p m c cL_law 8 s args wsL_law RL) (hts : ∀ w ∈ wsL_law, w.before args s = true) (hst : l.stackTraces = false) (hX : lwS b L xs s i) (h : inv s D cy q q' b i H locs ls) (hc : cells + 1 ≤ 1089) (hs : slots + 6 ≤ 8871)
    (kk : ∀ (H : Heap) (locs : List Loc) (ls : Array Slot), inv s D cy q q' b i H locs ls → W p l e room_1 s m args below meth c H locs (cells + 1) (slots + 6) Q (F0 m 2139 ls [])) : W p l e room_1 s m args below meth c H locs cells slots Q (F0 m 37 ls []) := by
  have hx := C.1
  have hb := C.2.1
  have h9 := h
  obtain ⟨nk, nb, nm, A, S, B, T, f, g, R, hI, hS, hl⟩ := h9
  refine lv_aload_n hx hb dL_law_37 rfl (lv_at hl 1 rfl) ?_
  refine lv_iload hx hb dL_law_38 (lv_at hl 0 rfl) ?_
  refine va_sld hx hb hX.1 hX.2.1 (fm_b hX.2.1) hS hX.2.2.1 dL_law_40 ?_
  refine lv_bipush (v := 31) hx hb dL_law_41 (by decide) ?_
  refine lv_iand hx hb dL_law_43 ?_
  obtain ⟨k, hk, he⟩ := and31 (xs i.toNatClampNeg)
  rw [he]
  match k, hk with
  | 0, _ => exact lv_tableIn (off := 144) (tgt := 188) hx hb dL_law_44 (by decide) (by decide) rfl (by decide) (lw_c0 C hts hst hX h hc hs kk)
  | 1, _ => exact lv_tableIn (off := 224) (tgt := 268) hx hb dL_law_44 (by decide) (by decide) rfl (by decide) (lw_c1 C hts hst hX h hc hs kk)
  | 2, _ => exact lv_tableIn (off := 280) (tgt := 324) hx hb dL_law_44 (by decide) (by decide) rfl (by decide) (lw_c2 C hts hst hX h hc hs kk)
  | 3, _ => exact lv_tableIn (off := 348) (tgt := 392) hx hb dL_law_44 (by decide) (by decide) rfl (by decide) (lw_c3 C hts hst hX h hc hs kk)
  | 4, _ => exact lv_tableIn (off := 411) (tgt := 455) hx hb dL_law_44 (by decide) (by decide) rfl (by decide) (lw_c4 C hts hst hX h hc hs kk)
  | 5, _ => exact lv_tableIn (off := 479) (tgt := 523) hx hb dL_law_44 (by decide) (by decide) rfl (by decide) (lw_c5 C hts hst hX h hc hs kk)
  | 6, _ => exact lv_tableIn (off := 547) (tgt := 591) hx hb dL_law_44 (by decide) (by decide) rfl (by decide) (lw_c6 C hts hst hX h hc hs kk)
  | 7, _ => exact lv_tableIn (off := 627) (tgt := 671) hx hb dL_law_44 (by decide) (by decide) rfl (by decide) (lw_c7 C hts hst hX h hc hs kk)
  | 8, _ => exact lv_tableIn (off := 683) (tgt := 727) hx hb dL_law_44 (by decide) (by decide) rfl (by decide) (lw_c8 C hts hst hX h hc hs kk)
  | 9, _ => exact lv_tableIn (off := 739) (tgt := 783) hx hb dL_law_44 (by decide) (by decide) rfl (by decide) (lw_c9 C hts hst hX h hc hs kk)
  | 10, _ => exact lv_tableIn (off := 814) (tgt := 858) hx hb dL_law_44 (by decide) (by decide) rfl (by decide) (lw_c10 C hts hst hX h hc hs kk)
  | 11, _ => exact lv_tableIn (off := 870) (tgt := 914) hx hb dL_law_44 (by decide) (by decide) rfl (by decide) (lw_c11 C hts hst hX h hc hs kk)
  | 12, _ => exact lv_tableIn (off := 926) (tgt := 970) hx hb dL_law_44 (by decide) (by decide) rfl (by decide) (lw_c12 C hts hst hX h hc hs kk)
  | 13, _ => exact lv_tableIn (off := 994) (tgt := 1038) hx hb dL_law_44 (by decide) (by decide) rfl (by decide) (lw_c13 C hts hst hX h hc hs kk)
  | 14, _ => exact lv_tableIn (off := 1069) (tgt := 1113) hx hb dL_law_44 (by decide) (by decide) rfl (by decide) (lw_c14 C hts hst hX h hc hs kk)
  | 15, _ => exact lv_tableIn (off := 1144) (tgt := 1188) hx hb dL_law_44 (by decide) (by decide) rfl (by decide) (lw_c15 C hts hst hX h hc hs kk)
  | 16, _ => exact lv_tableIn (off := 1222) (tgt := 1266) hx hb dL_law_44 (by decide) (by decide) rfl (by decide) (lw_c16 C hts hst hX h hc hs kk)
  | 17, _ => exact lv_tableIn (off := 1278) (tgt := 1322) hx hb dL_law_44 (by decide) (by decide) rfl (by decide) (lw_c17 C hts hst hX h hc hs kk)
  | 18, _ => exact lv_tableIn (off := 1341) (tgt := 1385) hx hb dL_law_44 (by decide) (by decide) rfl (by decide) (lw_c18 C hts hst hX h hc hs kk)
  | 19, _ => exact lv_tableIn (off := 1397) (tgt := 1441) hx hb dL_law_44 (by decide) (by decide) rfl (by decide) (lw_c19 C hts hst hX h hc hs kk)
  | 20, _ => exact lv_tableIn (off := 1453) (tgt := 1497) hx hb dL_law_44 (by decide) (by decide) rfl (by decide) (lw_c20 C hts hst hX h hc hs kk)
  | 21, _ => exact lv_tableIn (off := 1509) (tgt := 1553) hx hb dL_law_44 (by decide) (by decide) rfl (by decide) (lw_c21 C hts hst hX h hc hs kk)
  | 22, _ => exact lv_tableIn (off := 1572) (tgt := 1616) hx hb dL_law_44 (by decide) (by decide) rfl (by decide) (lw_c22 C hts hst hX h hc hs kk)
  | 23, _ => exact lv_tableIn (off := 1647) (tgt := 1691) hx hb dL_law_44 (by decide) (by decide) rfl (by decide) (lw_c23 C hts hst hX h hc hs kk)
  | 24, _ => exact lv_tableIn (off := 1725) (tgt := 1769) hx hb dL_law_44 (by decide) (by decide) rfl (by decide) (lw_c24 C hts hst hX h hc hs kk)
  | 25, _ => exact lv_tableIn (off := 1769) (tgt := 1813) hx hb dL_law_44 (by decide) (by decide) rfl (by decide) (lw_c25 C hts hst hX h hc hs kk)
  | 26, _ => exact lv_tableIn (off := 1825) (tgt := 1869) hx hb dL_law_44 (by decide) (by decide) rfl (by decide) (lw_c26 C hts hst hX h hc hs kk)
  | 27, _ => exact lv_tableIn (off := 1888) (tgt := 1932) hx hb dL_law_44 (by decide) (by decide) rfl (by decide) (lw_c27 C hts hst hX h hc hs kk)
  | 28, _ => exact lv_tableIn (off := 1944) (tgt := 1988) hx hb dL_law_44 (by decide) (by decide) rfl (by decide) (lw_c28 C hts hst hX h hc hs kk)
  | 29, _ => exact lv_tableIn (off := 2012) (tgt := 2056) hx hb dL_law_44 (by decide) (by decide) rfl (by decide) (lw_c29 C hts hst hX h hc hs kk)
  | 30, _ => exact lv_tableIn (off := 2068) (tgt := 2112) hx hb dL_law_44 (by decide) (by decide) rfl (by decide) (lw_c30 C hts hst hX h hc hs kk)
  | 31, _ => exact lv_tableIn (off := 2081) (tgt := 2125) hx hb dL_law_44 (by decide) (by decide) rfl (by decide) (lw_c31 C hts hst hX h hc hs kk)
  | n + 32, h => omega
theorem lw_loop (C : CallFix p m c cL_law 8 s args wsL_law RL) (hts : ∀ w ∈ wsL_law, w.before args s = true) (hst : l.stackTraces = false) (hXX : va_X b L xs s s.heap) (hbl : b < s.heap.size) (hL : L ≤ 2048)
    (kend : ∀ (H : Heap) (locs : List Loc) (ls : Array Slot), va_S (fm s.heap.size) s.heap H locs → W p l e room_1 s m args below meth c H locs 1089 8871 Q (F0 m 2145 ls [])) :
    ∀ (n r : Nat), r + n = 512 → ∀ (H : Heap) (locs : List Loc) (ls : Array Slot), inv s D cy q q' b (nI (4 * r)) H locs ls → W p l e room_1 s m args below meth c H locs (577 + r) (5799 + 6 * r) Q (F0 m 28 ls []) := by
  have hx := C.1
  have hb := C.2.1
  intro n
  induction n with
  | zero =>
    intro r hr H locs ls h
    obtain ⟨nk, nb, nm, A, S, B, T, f, g, R, hI, hS, hl⟩ := h
    refine lv_iload hx hb dL_law_28 (lv_at hl 0 rfl) ?_
    refine lv_aload_n hx hb dL_law_30 rfl (lv_at hl 1 rfl) ?_
    refine va_slen hx hb hXX hbl (fm_b hbl) hS dL_law_31 ?_
    refine lv_iconst (v := 4) hx hb dL_law_32 (by decide) ?_
    refine lv_isub hx hb dL_law_33 ?_
    exact lv_icmp_gt hx hb (tgt := 2145) dL_law_34 (by decide) (fun _ => W.widen (by omega) (by omega) (kend H locs ls hS)) (fun hle => absurd ((nI_sub4 hL (by omega)).mpr (by omega)) hle)
  | succ n ih =>
    intro r hr H locs ls h
    have h9 := h
    obtain ⟨nk, nb, nm, A, S, B, T, f, g, R, hI, hS, hl⟩ := h9
    refine lv_iload hx hb dL_law_28 (lv_at hl 0 rfl) ?_
    refine lv_aload_n hx hb dL_law_30 rfl (lv_at hl 1 rfl) ?_
    refine va_slen hx hb hXX hbl (fm_b hbl) hS dL_law_31 ?_
    refine lv_iconst (v := 4) hx hb dL_law_32 (by decide) ?_
    refine lv_isub hx hb dL_law_33 ?_
    refine lv_icmp_gt hx hb (tgt := 2145) dL_law_34 (by decide) (fun _ => W.widen (by omega) (by omega) (kend H locs ls hS)) (fun hle => ?_)
    have h4 : 4 * r + 4 ≤ L := by
      rcases Nat.lt_or_ge L (4 * r + 4) with z | z
      · exact absurd ((nI_sub4 hL (by omega)).mpr z) hle
      · exact z
    have hp : ∀ j : Nat, j < 4 → vp_in (nI (4 * r) + nI j) L := fun j hj => by
      rw [nI_add]
      exact vp_in_nI (by omega) (by omega)
    have hX : lwS b L xs s (nI (4 * r)) := ⟨hXX, hbl, vp_in_nI (by omega) (by omega), hp 1 (by decide), hp 2 (by decide), hp 3 (by decide)⟩
    refine lw_round C hts hst hX h (by omega) (by omega) (fun H locs ls h => ?_)
    obtain ⟨nk, nb, nm, A, S, B, T, f, g, R, hI, hS, hl⟩ := h
    refine lv_iinc (k := 0) (v := nI (4 * (r + 1))) (lv' := lc b q q' (nI (4 * (r + 1)))) hx hb dL_law_2139 hl rfl (nI_add (4 * r) 4) (by decide) rfl (fun ls hl => ?_)
    refine lv_goto (tgt := 28) hx hb dL_law_2142 (by decide) ?_
    exact ih (r + 1) (by omega) H locs ls (inv_mk hI hS hl R)
theorem wO_at {u : Nat → Nat} {A : Nat → Nat → Int32} {S : Nat → Int32} {f : Nat → Int64} {g : Nat → UInt64} (x y : Nat) : wO cy (fun k => if k = 19 then x else if k = 20 then y else u k) A S f g = wX cy u A S ++ [(x, .inl (cy 2, 1, .inr (.inl f))), (y, .inl (cy 3, 1, .inr (.inr (.inr (.inl g)))))] := rfl
set_option maxHeartbeats 4000000 in
set_option maxRecDepth 100000 in
theorem lw_start (C : CallFix p m c cL_law 8 s args wsL_law RL) (hst : l.stackTraces = false) (hG : amb D cy s.heap.size s s.heap) (hl : lv_has ls 8 [(0, .ref b)])
    (kk : ∀ (q q' : Nat → Nat) (H : Heap) (locs : List Loc) (ls : Array Slot), inv s D cy q q' b (nI (4 * 0)) H locs ls → W p l e room_1 s m args below meth c H locs 577 5799 Q (F0 m 28 ls [])) : W p l e room_1 s m args below meth c s.heap [] 0 0 Q (F0 m 0 ls []) := by
  have hx := C.1
  have hb := C.2.1
  have hown : s.vm.findClass RL = some m.cls := C.2.2.2.1
  have hts : ∀ w ∈ wsL_law, w.before args s = true := C.2.2.2.2
  have hS : va_S (fm s.heap.size) s.heap s.heap [] := va_S.rf
  have hh : s.heap.size ≤ s.heap.size := Nat.le_refl _
  have hI : IH D cy s.heap.size [] s s.heap := ⟨hG, fun k x hk => (by simp at hk), fun i j x y hi => (by simp at hi), fun k x hk => (by simp at hk)⟩
  refine r_newO (own := RL) (ci := 3) (fs := [.null, .null, .null, .null, .null, .int 0, .int 0]) (C := RX3) (T := TX3) (N := 7) hx hb hts inlX3 tyX3_ok hown (hts (.classLink RL 8 RX3) (List.mem_of_getElem? (i := 0) rfl)) (hts (.instantiable RX3 7) (List.mem_of_getElem? (i := 1) rfl)) (hts (.initialized RX3) (List.mem_of_getElem? (i := 2) rfl)) hI hS hh rfl (fun j hj => by rcases (show j = 0 ∨ j = 1 ∨ j = 2 ∨ j = 3 ∨ j = 4 ∨ j = 5 ∨ j = 6 by omega) with rfl | rfl | rfl | rfl | rfl | rfl | rfl <;> rfl) (Nat.le_of_ble_eq_true rfl) (Nat.le_of_ble_eq_true rfl) dL_law_0 (fun q0 H hlt hI hS => ?_)
  refine lv_dup hx hb dL_law_3 rfl ?_
  refine r_ctor (w0 := []) (w1 := fun u : Nat → Nat => wX cy u iA iS) (va_runI (As := []) (rest := [.ref q0]) C (c_X3_init l D cy q0) (cwI 0 hts gL_law_X3_init rfl rfl rfl (hts (.initialized RX3) (List.mem_of_getElem? (i := 2) rfl)) (hts (.methodLink RL 116 yX3_init) (List.mem_of_getElem? (i := 8) rfl)) (hts (.instanceMethod yX3_init) (List.mem_of_getElem? (i := 9) rfl)) rfl (by decide +kernel) ⟨Nat.le_of_ble_eq_true rfl, Nat.le_of_ble_eq_true rfl⟩) (IH.ctor (w0 := []) hI).preS rfl rfl hl.1 rfl (lv_room (Nat.le_of_ble_eq_true rfl)) dL_law_4 ⟨Nat.le_of_ble_eq_true rfl, Nat.le_of_ble_eq_true rfl⟩) hI hlt hS (fun u H locs hu hI hS => ?_)
  refine lv_astore_n (lv' := [(1, .ref q0), (0, .ref b)]) hx hb dL_law_7 rfl hl (by decide) rfl (fun ls hl => ?_)
  have hI : IH D cy s.heap.size (wX cy u iA iS) s H := hI
  refine r_newO (own := RL) (ci := 4) (fs := [.null, .null, .int 0, .null, .null, .null, .null, .int 0, .null, .null, .null, .null, .null, .null, .null, .null, .int 0, .null, .null, .null, .int 0, .int 0, .int 0]) (C := RX4) (T := TX4) (N := 23) hx hb hts inlX4 tyX4_ok hown (hts (.classLink RL 117 RX4) (List.mem_of_getElem? (i := 3) rfl)) (hts (.instantiable RX4 23) (List.mem_of_getElem? (i := 4) rfl)) (hts (.initialized RX4) (List.mem_of_getElem? (i := 5) rfl)) hI hS hh rfl (fun j hj => by rcases (show j = 0 ∨ j = 1 ∨ j = 2 ∨ j = 3 ∨ j = 4 ∨ j = 5 ∨ j = 6 ∨ j = 7 ∨ j = 8 ∨ j = 9 ∨ j = 10 ∨ j = 11 ∨ j = 12 ∨ j = 13 ∨ j = 14 ∨ j = 15 ∨ j = 16 ∨ j = 17 ∨ j = 18 ∨ j = 19 ∨ j = 20 ∨ j = 21 ∨ j = 22 by omega) with rfl | rfl | rfl | rfl | rfl | rfl | rfl | rfl | rfl | rfl | rfl | rfl | rfl | rfl | rfl | rfl | rfl | rfl | rfl | rfl | rfl | rfl | rfl <;> rfl) (Nat.le_of_ble_eq_true rfl) (Nat.le_of_ble_eq_true rfl) dL_law_8 (fun q1 H hlt hI hS => ?_)
  refine lv_dup hx hb dL_law_11 rfl ?_
  refine r_ctor (w0 := (wX cy u iA iS)) (w1 := fun u' : Nat → Nat => wM cy u' jA jS) (va_runI (As := []) (rest := [.ref q1]) C (c_X4_init l D cy q1) (cwI 0 hts gL_law_X4_init rfl rfl rfl (hts (.initialized RX4) (List.mem_of_getElem? (i := 5) rfl)) (hts (.methodLink RL 119 yX4_init) (List.mem_of_getElem? (i := 53) rfl)) (hts (.instanceMethod yX4_init) (List.mem_of_getElem? (i := 54) rfl)) rfl (by decide +kernel) ⟨Nat.le_of_ble_eq_true rfl, Nat.le_of_ble_eq_true rfl⟩) (IH.ctor (w0 := (wX cy u iA iS)) hI).preS rfl rfl hl.1 rfl (lv_room (Nat.le_of_ble_eq_true rfl)) dL_law_12 ⟨Nat.le_of_ble_eq_true rfl, Nat.le_of_ble_eq_true rfl⟩) hI hlt hS (fun u' H locs hu' hI hS => ?_)
  refine lv_astore_n (lv' := [(2, .ref q1), (1, .ref q0), (0, .ref b)]) hx hb dL_law_15 rfl hl (by decide) rfl (fun ls hl => ?_)
  have hI : IH D cy s.heap.size (wX cy u iA iS ++ wM cy u' jA jS) s H := hI
  refine lv_iconst (v := 1) hx hb dL_law_16 (by decide) ?_
  refine r_newG (a0 := (1, .inr (.inl (fun _ => 0)))) (atype := .long) (n := 1) (ty := .long) (t0 := 2) (N := 1) hx hb (hts (.arrayClass .long) (List.mem_of_getElem? (i := 6) rfl)) rfl hI hS hh rfl (fun _ _ => rfl) (fun _ => rfl) (by decide) (by decide) (by decide +kernel) (Nat.le_of_ble_eq_true rfl) (Nat.le_of_ble_eq_true rfl) dL_law_17 (fun qa H hI hS => ?_)
  refine lv_astore_n (lv' := [(3, .ref qa), (2, .ref q1), (1, .ref q0), (0, .ref b)]) hx hb dL_law_19 rfl hl (by decide) rfl (fun ls hl => ?_)
  refine lv_iconst (v := 1) hx hb dL_law_20 (by decide) ?_
  refine r_newG (a0 := (1, .inr (.inr (.inr (.inl (fun _ => 0)))))) (atype := .double) (n := 1) (ty := .double) (t0 := 3) (N := 1) hx hb (hts (.arrayClass .double) (List.mem_of_getElem? (i := 7) rfl)) rfl hI hS hh rfl (fun _ _ => rfl) (fun _ => rfl) (by decide) (by decide) (by decide +kernel) (Nat.le_of_ble_eq_true rfl) (Nat.le_of_ble_eq_true rfl) dL_law_21 (fun qb H hI hS => ?_)
  refine lv_astore (lv' := [(4, .ref qb), (3, .ref qa), (2, .ref q1), (1, .ref q0), (0, .ref b)]) hx hb dL_law_23 hl (by decide) rfl (fun ls hl => ?_)
  refine lv_iconst (v := 0) hx hb dL_law_25 (by decide) ?_
  refine lv_istore (lv' := [(5, .int 0), (4, .ref qb), (3, .ref qa), (2, .ref q1), (1, .ref q0), (0, .ref b)]) hx hb dL_law_26 hl (by decide) rfl (fun ls hl => ?_)
  have hI9 := hI
  have hl9 := hl
  have hS9 := hS
  subst hu
  subst hu'
  have hI : IH D cy s.heap.size (wO cy (fun k => if k = 19 then qa else if k = 20 then qb else u k) iA iS (fun _ => 0) (fun _ => 0) ++ wM cy u' jA jS) s H := by
    rw [wO_at]
    exact hI9.sub [0, 1, 2, 3, 4, 5, 6, 7, 8, 9, 10, 11, 12, 13, 14, 15, 16, 17, 18, 37, 38, 19, 20, 21, 22, 23, 24, 25, 26, 27, 28, 29, 30, 31, 32, 33, 34, 35, 36] rfl rfl rfl
  have hl : lv_has ls 8 (lc b (fun k => if k = 19 then qa else if k = 20 then qb else u k) u' (nI (4 * 0))) := lv_sub hl9 [0, 5, 4, 3, 2, 1] rfl
  exact W.widen (Nat.le_of_ble_eq_true rfl) (Nat.le_of_ble_eq_true rfl) (kk _ u' H locs ls (inv_mk hI hS9 hl RR_0))
end LOOP
