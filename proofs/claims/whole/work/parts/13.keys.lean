/-! Buildlots.only, holds; Keys.liveOn, live, signersOf, append. Rows written by wip/whole/gen/part13.py. -/
def liveB (A : Nat → Nat → Int32) (S : Nat → Int32) (j : Nat) (day : Int32) : Bool := !decide (day < A 3 j) && (!decide (A 4 j < day) && !hold (S 2) (nI j))
def liveF (A : Nat → Nat → Int32) (S : Nat → Int32) (day : Int32) : Nat → Int32
  | 0 => 0
  | k + 1 => if liveB A S k day then liveF A S day k ||| ly (nI k) else liveF A S day k
def sgF (g : Nat → Int32) (x : Int32) : Nat → Int32
  | 0 => 0
  | k + 1 => if hold x (nI k) then sgF g x k ||| ly (g k) else sgF g x k

set_option maxHeartbeats 4000000 in
set_option maxRecDepth 100000 in
theorem c_X3_only (l : Launch) (k : Int32) : Met l yX3_only wsX3_only (rmO 1 0) (va_Pc [.int k] (fun _ => True)) (roI (ly k)) 0 0 nof := by
  refine Met.ofW (cc := cX3_only) (maxL := 1) (ret := (some .int)) (by decide) rfl ?_
  intro p e s m args below meth c s₁ B hml hv
  obtain ⟨rfl, hI⟩ := hv
  have hx := B.exec
  have hb := B.bytes
  have hr := B.returns
  have hts := atoms_spec (ws := wsX3_only) B.pre
  have hown : s.vm.findClass RX3 = some m.cls := findClass_of_methodNamed B.named
  have hlk := B.notSynchronized
  have hS : va_S nof s.heap s.heap [] := va_S.rf
  have hl := lv_entry ([.int k]) (n := 1) (Nat.le_of_ble_eq_true rfl)
  rw [lg_entry_eq]
  generalize (lg_sl ([.int k]) ++ List.replicate (1 - (lg_sl ([.int k])).length) Slot.unset).toArray = ls at hl ⊢
  have hl : lv_has ls 1 [(0, .int k)] := hl
  refine lv_iconst (v := 1) hx hb dX3_only_0 (by decide) ?_
  refine lv_iload_n hx hb dX3_only_1 rfl (lv_at hl 0 rfl) ?_
  refine lv_ishl hx hb dX3_only_2 ?_
  exact end_roi hx hb hr rfl hS dX3_only_3 hlk

set_option maxHeartbeats 4000000 in
set_option maxRecDepth 100000 in
theorem c_X3_holds (l : Launch) (x : Int32) (k : Int32) : Met l yX3_holds wsX3_holds (rmO 2 20) (va_Pc [.int x, .int k] (fun _ => True)) (roI (bI (hold x k))) 0 0 nof := by
  refine Met.ofW (cc := cX3_holds) (maxL := 2) (ret := (some .boolean)) (by decide) rfl ?_
  intro p e s m args below meth c s₁ B hml hv
  obtain ⟨rfl, hI⟩ := hv
  have hx := B.exec
  have hb := B.bytes
  have hr := B.returns
  have hts := atoms_spec (ws := wsX3_holds) B.pre
  have hown : s.vm.findClass RX3 = some m.cls := findClass_of_methodNamed B.named
  have hlk := B.notSynchronized
  have hS : va_S nof s.heap s.heap [] := va_S.rf
  have hl := lv_entry ([.int x, .int k]) (n := 2) (Nat.le_of_ble_eq_true rfl)
  rw [lg_entry_eq]
  generalize (lg_sl ([.int x, .int k]) ++ List.replicate (2 - (lg_sl ([.int x, .int k])).length) Slot.unset).toArray = ls at hl ⊢
  have hl : lv_has ls 2 [(0, .int x), (1, .int k)] := hl
  refine lv_iload_n hx hb dX3_holds_0 rfl (lv_at hl 0 rfl) ?_
  refine lv_iload_n hx hb dX3_holds_1 rfl (lv_at hl 1 rfl) ?_
  refine ro0_i (va_runS (As := [.int k]) (rest := [.int x]) ⟨hx, hb, hml, hown, hts⟩ (c_X3_only l k) (va_cwS 1 hts gX3_holds_X3_only rfl rfl rfl (by decide +kernel) ⟨Nat.le_of_ble_eq_true rfl, Nat.le_of_ble_eq_true rfl⟩) preT rfl rfl hl.1 rfl (lv_room (Nat.le_of_ble_eq_true rfl)) dX3_holds_2 ⟨Nat.le_of_ble_eq_true rfl, Nat.le_of_ble_eq_true rfl⟩) hS (fun H locs hS => ?_)
  refine lv_iand hx hb dX3_holds_5 ?_
  refine lv_if_eq (tgt := 13) hx hb dX3_holds_6 (by decide) (fun c6_1 => ?_) (fun c6_1 => ?_)
  · refine lv_iconst (v := 0) hx hb dX3_holds_13 (by decide) ?_
    exact end_roz hx hb hr rfl (by simp [hold, bI, c6_1]) hS dX3_holds_14 hlk
  · refine lv_iconst (v := 1) hx hb dX3_holds_9 (by decide) ?_
    refine lv_goto (tgt := 14) hx hb dX3_holds_10 (by decide) ?_
    exact end_roz hx hb hr rfl (by simp [hold, bI, c6_1]) hS dX3_holds_14 hlk

set_option maxHeartbeats 4000000 in
set_option maxRecDepth 100000 in
theorem c_X1_liveOn (l : Launch) (D : va_G) (cy : Nat → ClassId) (h0 : Nat) (q : Nat → Nat) (A : Nat → Nat → Int32) (S : Nat → Int32) (key : Int32) (day : Int32) (j : Nat) (hj : j < 8) (hk : key = nI j) : Met l yX1_liveOn wsX1_liveOn (rmO 3 41) (va_Pc [.ref (q 1), .int key, .int day] (pI D cy h0 (wX cy q A S))) (roI (bI (liveB A S j day))) 0 0 nof := by
  refine Met.ofW (cc := cX1_liveOn) (maxL := 3) (ret := (some .boolean)) (by decide) rfl ?_
  intro p e s m args below meth c s₁ B hml hv
  obtain ⟨rfl, hI⟩ := hv
  have hx := B.exec
  have hb := B.bytes
  have hr := B.returns
  have hts := atoms_spec (ws := wsX1_liveOn) B.pre
  have hown : s.vm.findClass RX1 = some m.cls := findClass_of_methodNamed B.named
  have hlk := B.notSynchronized
  have hI : IH D cy h0 (wX cy q A S) s s.heap := hI
  have hG := hI.1
  have hS : va_S nof s.heap s.heap [] := va_S.rf
  have hi1 : ∀ w ∈ wsX10, w ∈ wsX1_liveOn := by decide +kernel
  have hl := lv_entry ([.ref (q 1), .int key, .int day]) (n := 3) (Nat.le_of_ble_eq_true rfl)
  rw [lg_entry_eq]
  generalize (lg_sl ([.ref (q 1), .int key, .int day]) ++ List.replicate (3 - (lg_sl ([.ref (q 1), .int key, .int day])).length) Slot.unset).toArray = ls at hl ⊢
  have hl : lv_has ls 3 [(0, .ref (q 1)), (1, .int key), (2, .int day)] := hl
  refine lv_aload_n hx hb dX1_liveOn_0 rfl (lv_at hl 0 rfl) ?_
  refine r_get (C := RX1) (T := TX1) (N := 5) (k := 1) (q0 := 1) (v := .ref (q 7)) hx hb hts hi1 hown hI rfl rfl (by decide) (hts (.fieldLink RX1 15 "Buildlots$Keys" "firsts" "[I") (List.mem_of_getElem? (i := 1) rfl)) rfl rfl dX1_liveOn_1 ?_
  refine lv_iload_n hx hb dX1_liveOn_4 rfl (lv_at hl 1 rfl) ?_
  refine r_iald (q0 := 7) (j := j) (n := 8) (f := (A 3)) hx hb hI rfl hk hj (by decide) dX1_liveOn_5 ?_
  refine lv_iload_n hx hb dX1_liveOn_6 rfl (lv_at hl 2 rfl) ?_
  refine lv_icmp_gt (tgt := 35) hx hb dX1_liveOn_7 (by decide) (fun c7_1 => ?_) (fun c7_1 => ?_)
  · refine lv_iconst (v := 0) hx hb dX1_liveOn_35 (by decide) ?_
    exact end_roz hx hb hr rfl (by subst hk; simp [liveB, bI, c7_1,  Int32.not_lt, Int32.not_le]) hS dX1_liveOn_36 hlk
  · refine lv_iload_n hx hb dX1_liveOn_10 rfl (lv_at hl 2 rfl) ?_
    refine lv_aload_n hx hb dX1_liveOn_11 rfl (lv_at hl 0 rfl) ?_
    refine r_get (C := RX1) (T := TX1) (N := 5) (k := 2) (q0 := 1) (v := .ref (q 8)) hx hb hts hi1 hown hI rfl rfl (by decide) (hts (.fieldLink RX1 18 "Buildlots$Keys" "lasts" "[I") (List.mem_of_getElem? (i := 2) rfl)) rfl rfl dX1_liveOn_12 ?_
    refine lv_iload_n hx hb dX1_liveOn_15 rfl (lv_at hl 1 rfl) ?_
    refine r_iald (q0 := 8) (j := j) (n := 8) (f := (A 4)) hx hb hI rfl hk hj (by decide) dX1_liveOn_16 ?_
    refine lv_icmp_gt (tgt := 35) hx hb dX1_liveOn_17 (by decide) (fun c17_2 => ?_) (fun c17_2 => ?_)
    · refine lv_iconst (v := 0) hx hb dX1_liveOn_35 (by decide) ?_
      exact end_roz hx hb hr rfl (by subst hk; simp [liveB, bI, c7_1, c17_2,  Int32.not_lt, Int32.not_le]) hS dX1_liveOn_36 hlk
    · refine lv_aload_n hx hb dX1_liveOn_20 rfl (lv_at hl 0 rfl) ?_
      refine r_get (C := RX1) (T := TX1) (N := 5) (k := 3) (q0 := 1) (v := .int (S 2)) hx hb hts hi1 hown hI rfl rfl (by decide) (hts (.fieldLink RX1 25 "Buildlots$Keys" "lost" "I") (List.mem_of_getElem? (i := 3) rfl)) rfl rfl dX1_liveOn_21 ?_
      refine lv_iload_n hx hb dX1_liveOn_24 rfl (lv_at hl 1 rfl) ?_
      refine ro_i (va_runSN (As := [.int (S 2), .int key]) (rest := []) ⟨hx, hb, hml, hown, hts⟩ (c_X3_holds l (S 2) key) ⟨va_cnB (host := RX3) 2 hts gX1_liveOn_X3_holds_n28 rfl rfl rfl (hG.1.2.1 (RX1, 28, yX3_holds) (List.mem_of_getElem? (i := 6) rfl)) (hts (.initialized RX3) (List.mem_of_getElem? (i := 5) rfl)) (by decide +kernel) ⟨Nat.le_of_ble_eq_true rfl, Nat.le_of_ble_eq_true rfl⟩, (hts (.static yX3_holds) (List.mem_of_getElem? (i := 4) rfl)), trivial⟩ preT rfl rfl hl.1 rfl (lv_room (Nat.le_of_ble_eq_true rfl)) dX1_liveOn_25 ⟨Nat.le_of_ble_eq_true rfl, Nat.le_of_ble_eq_true rfl⟩) hI hS (fun H locs hI hS => ?_)
      refine r_ifne_b (tgt := 35) hx hb dX1_liveOn_28 (by decide) (fun c28_3 => ?_) (fun c28_3 => ?_)
      · refine lv_iconst (v := 0) hx hb dX1_liveOn_35 (by decide) ?_
        exact end_roz hx hb hr rfl (by subst hk; simp [liveB, bI, c7_1, c17_2, c28_3,  Int32.not_lt, Int32.not_le]) hS dX1_liveOn_36 hlk
      · refine lv_iconst (v := 1) hx hb dX1_liveOn_31 (by decide) ?_
        refine lv_goto (tgt := 36) hx hb dX1_liveOn_32 (by decide) ?_
        exact end_roz hx hb hr rfl (by subst hk; simp [liveB, bI, c7_1, c17_2, c28_3,  Int32.not_lt, Int32.not_le]) hS dX1_liveOn_36 hlk

set_option maxHeartbeats 4000000 in
set_option maxRecDepth 100000 in
theorem c_X1_live (l : Launch) (D : va_G) (cy : Nat → ClassId) (h0 : Nat) (q : Nat → Nat) (A : Nat → Nat → Int32) (S : Nat → Int32) (day : Int32) (nk : Nat) (hn : nk ≤ 8) (hc : S 3 = nI nk) : Met l yX1_live wsX1_live (rmO 4 63) (va_Pc [.ref (q 1), .int day] (pI D cy h0 (wX cy q A S))) (roI (liveF A S day nk)) 0 0 nof := by
  refine Met.ofW (cc := cX1_live) (maxL := 4) (ret := (some .int)) (by decide) rfl ?_
  intro p e s m args below meth c s₁ B hml hv
  obtain ⟨rfl, hI⟩ := hv
  have hx := B.exec
  have hb := B.bytes
  have hr := B.returns
  have hts := atoms_spec (ws := wsX1_live) B.pre
  have hown : s.vm.findClass RX1 = some m.cls := findClass_of_methodNamed B.named
  have hlk := B.notSynchronized
  have hI : IH D cy h0 (wX cy q A S) s s.heap := hI
  have hG := hI.1
  have hS : va_S nof s.heap s.heap [] := va_S.rf
  have hi1 : ∀ w ∈ wsX10, w ∈ wsX1_live := by decide +kernel
  have hl := lv_entry ([.ref (q 1), .int day]) (n := 4) (Nat.le_of_ble_eq_true rfl)
  rw [lg_entry_eq]
  generalize (lg_sl ([.ref (q 1), .int day]) ++ List.replicate (4 - (lg_sl ([.ref (q 1), .int day])).length) Slot.unset).toArray = ls at hl ⊢
  have hl : lv_has ls 4 [(0, .ref (q 1)), (1, .int day)] := hl
  refine lv_iconst (v := 0) hx hb dX1_live_0 (by decide) ?_
  refine lv_istore_n (lv' := [(2, .int 0), (0, .ref (q 1)), (1, .int day)]) hx hb dX1_live_1 rfl hl (by decide) rfl (fun ls hl => ?_)
  refine lv_iconst (v := 0) hx hb dX1_live_2 (by decide) ?_
  refine lv_istore_n (lv' := [(3, .int 0), (2, .int 0), (0, .ref (q 1)), (1, .int day)]) hx hb dX1_live_3 rfl hl (by decide) rfl (fun ls hl => ?_)
  suffices KL4 : ∀ (n9 k : Nat), k + n9 = nk → ∀ (H : Heap) (locs : List Loc), IH D cy h0 (wX cy q A S) s H → va_S (nof) s.heap H locs → ∀ ls : Array Slot, lv_has ls 4 [(3, .int (nI k)), (2, .int (liveF A S day k)), (0, .ref (q 1)), (1, .int day)] → W p l e (headSpec wsX1_live (rmO 4 63)).room s m ([.ref (q 1), .int day]).toArray below meth c H locs 0 0 (MQ below (roI (liveF A S day nk)) ([.ref (q 1), .int day]).toArray s 0 0 nof) (F0 m 4 ls []) by
    exact KL4 nk 0 (by omega) _ _ hI hS ls ((lv_sub hl [0, 1, 2, 3] rfl))
  intro n9
  induction n9 with
  | zero =>
    intro k hk H locs hI hS ls hl
    have hk : nk = k := by omega
    subst hk
    refine lv_iload_n hx hb dX1_live_4 rfl (lv_at hl 0 rfl) ?_
    refine lv_aload_n hx hb dX1_live_5 rfl (lv_at hl 2 rfl) ?_
    refine r_get (C := RX1) (T := TX1) (N := 5) (k := 4) (q0 := 1) (v := .int (S 3)) hx hb hts hi1 hown hI rfl rfl (by decide) (hts (.fieldLink RX1 21 "Buildlots$Keys" "count" "I") (List.mem_of_getElem? (i := 1) rfl)) rfl rfl dX1_live_6 ?_
    refine lv_icmp_ge (tgt := 34) hx hb dX1_live_9 (by decide) (fun c9_1 => ?_) (fun c9_1 => ?_)
    rotate_left
    · exact absurd (i_ge rfl hc (Nat.le_refl _) (by omega)) c9_1
    refine lv_iload_n hx hb dX1_live_34 rfl (lv_at hl 1 rfl) ?_
    exact end_roi hx hb hr rfl hS dX1_live_35 hlk
  | succ n9 ih4 =>
    intro k hk H locs hI hS ls hl
    have hk4 : k < nk := by omega
    refine lv_iload_n hx hb dX1_live_4 rfl (lv_at hl 0 rfl) ?_
    refine lv_aload_n hx hb dX1_live_5 rfl (lv_at hl 2 rfl) ?_
    refine r_get (C := RX1) (T := TX1) (N := 5) (k := 4) (q0 := 1) (v := .int (S 3)) hx hb hts hi1 hown hI rfl rfl (by decide) (hts (.fieldLink RX1 21 "Buildlots$Keys" "count" "I") (List.mem_of_getElem? (i := 1) rfl)) rfl rfl dX1_live_6 ?_
    refine lv_icmp_ge (tgt := 34) hx hb dX1_live_9 (by decide) (fun c9_2 => ?_) (fun c9_2 => ?_)
    · exact absurd c9_2 (i_nge rfl hc (by omega) (by omega))
    refine lv_aload_n hx hb dX1_live_12 rfl (lv_at hl 2 rfl) ?_
    refine lv_iload_n hx hb dX1_live_13 rfl (lv_at hl 0 rfl) ?_
    refine lv_iload_n hx hb dX1_live_14 rfl (lv_at hl 3 rfl) ?_
    refine ro_i (va_runV (As := [.int (nI k), .int day]) (rest := []) ⟨hx, hb, hml, hown, hts⟩ (c_X1_liveOn l D cy h0 q A S (nI k) day k (by omega) rfl) (cwV 2 hts gX1_live_X1_liveOn rfl rfl rfl (by decide +kernel) ⟨Nat.le_of_ble_eq_true rfl, Nat.le_of_ble_eq_true rfl⟩) (hI.preV (k0 := 1) rfl rfl) rfl rfl hl.1 rfl (lv_room (Nat.le_of_ble_eq_true rfl)) dX1_live_15 ⟨Nat.le_of_ble_eq_true rfl, Nat.le_of_ble_eq_true rfl⟩) hI hS (fun H locs hI hS => ?_)
    refine r_ifeq_b (tgt := 28) hx hb dX1_live_18 (by decide) (fun c18_3 => ?_) (fun c18_3 => ?_)
    · refine lv_iinc (v := nI (k + 1)) (lv' := [(3, .int (nI (k + 1))), (2, .int (liveF A S day k)), (0, .ref (q 1)), (1, .int day)]) hx hb dX1_live_28 hl (k := 0) rfl (nI_1 k) (by decide) rfl (fun ls hl => ?_)
      refine lv_goto (tgt := 4) hx hb dX1_live_31 (by decide) ?_
      rw [show (liveF A S day k) = (liveF A S day (k + 1)) from (by first | (simp only [liveF, c9_2, c18_3, ↓reduceIte, Bool.false_eq_true, reduceCtorEq]; done) | simp [liveF, c9_2, c18_3])] at hl
      exact ih4 (k + 1) (by omega) _ _ hI hS ls (lv_sub hl [0, 1, 2, 3] rfl)
    · refine lv_iload_n hx hb dX1_live_21 rfl (lv_at hl 1 rfl) ?_
      refine lv_iload_n hx hb dX1_live_22 rfl (lv_at hl 0 rfl) ?_
      refine ro_i (va_runSN (As := [.int (nI k)]) (rest := [.int (liveF A S day k)]) ⟨hx, hb, hml, hown, hts⟩ (c_X3_only l (nI k)) ⟨va_cnB (host := RX3) 1 hts gX1_live_X3_only_n35 rfl rfl rfl (hG.1.2.1 (RX1, 35, yX3_only) (List.mem_of_getElem? (i := 7) rfl)) (hts (.initialized RX3) (List.mem_of_getElem? (i := 11) rfl)) (by decide +kernel) ⟨Nat.le_of_ble_eq_true rfl, Nat.le_of_ble_eq_true rfl⟩, (hts (.static yX3_only) (List.mem_of_getElem? (i := 14) rfl)), trivial⟩ preT rfl rfl hl.1 rfl (lv_room (Nat.le_of_ble_eq_true rfl)) dX1_live_23 ⟨Nat.le_of_ble_eq_true rfl, Nat.le_of_ble_eq_true rfl⟩) hI hS (fun H locs hI hS => ?_)
      refine lv_ior hx hb dX1_live_26 ?_
      refine lv_istore_n (lv' := [(2, .int ((liveF A S day k) ||| (ly (nI k)))), (3, .int (nI k)), (0, .ref (q 1)), (1, .int day)]) hx hb dX1_live_27 rfl hl (by decide) rfl (fun ls hl => ?_)
      refine lv_iinc (v := nI (k + 1)) (lv' := [(3, .int (nI (k + 1))), (2, .int ((liveF A S day k) ||| (ly (nI k)))), (0, .ref (q 1)), (1, .int day)]) hx hb dX1_live_28 hl (k := 1) rfl (nI_1 k) (by decide) rfl (fun ls hl => ?_)
      refine lv_goto (tgt := 4) hx hb dX1_live_31 (by decide) ?_
      rw [show ((liveF A S day k) ||| (ly (nI k))) = (liveF A S day (k + 1)) from (by first | (simp only [liveF, c9_2, c18_3, ↓reduceIte, Bool.false_eq_true, reduceCtorEq]; done) | simp [liveF, c9_2, c18_3])] at hl
      exact ih4 (k + 1) (by omega) _ _ hI hS ls (lv_sub hl [0, 1, 2, 3] rfl)

set_option maxHeartbeats 4000000 in
set_option maxRecDepth 100000 in
theorem c_X1_signersOf (l : Launch) (D : va_G) (cy : Nat → ClassId) (h0 : Nat) (q : Nat → Nat) (A : Nat → Nat → Int32) (S : Nat → Int32) (x : Int32) (nk : Nat) (hn : nk ≤ 8) (hc : S 3 = nI nk) : Met l yX1_signersOf wsX1_signersOf (rmO 3 41) (va_Pc [.ref (q 1), .int x] (pI D cy h0 (wX cy q A S))) (roI (sgF (A 2) x nk)) 0 0 nof := by
  refine Met.ofW (cc := cX1_signersOf) (maxL := 4) (ret := (some .int)) (by decide) rfl ?_
  intro p e s m args below meth c s₁ B hml hv
  obtain ⟨rfl, hI⟩ := hv
  have hx := B.exec
  have hb := B.bytes
  have hr := B.returns
  have hts := atoms_spec (ws := wsX1_signersOf) B.pre
  have hown : s.vm.findClass RX1 = some m.cls := findClass_of_methodNamed B.named
  have hlk := B.notSynchronized
  have hI : IH D cy h0 (wX cy q A S) s s.heap := hI
  have hG := hI.1
  have hS : va_S nof s.heap s.heap [] := va_S.rf
  have hi1 : ∀ w ∈ wsX10, w ∈ wsX1_signersOf := by decide +kernel
  have hl := lv_entry ([.ref (q 1), .int x]) (n := 4) (Nat.le_of_ble_eq_true rfl)
  rw [lg_entry_eq]
  generalize (lg_sl ([.ref (q 1), .int x]) ++ List.replicate (4 - (lg_sl ([.ref (q 1), .int x])).length) Slot.unset).toArray = ls at hl ⊢
  have hl : lv_has ls 4 [(0, .ref (q 1)), (1, .int x)] := hl
  refine lv_iconst (v := 0) hx hb dX1_signersOf_0 (by decide) ?_
  refine lv_istore_n (lv' := [(2, .int 0), (0, .ref (q 1)), (1, .int x)]) hx hb dX1_signersOf_1 rfl hl (by decide) rfl (fun ls hl => ?_)
  refine lv_iconst (v := 0) hx hb dX1_signersOf_2 (by decide) ?_
  refine lv_istore_n (lv' := [(3, .int 0), (2, .int 0), (0, .ref (q 1)), (1, .int x)]) hx hb dX1_signersOf_3 rfl hl (by decide) rfl (fun ls hl => ?_)
  suffices KL4 : ∀ (n9 k : Nat), k + n9 = nk → ∀ (H : Heap) (locs : List Loc), IH D cy h0 (wX cy q A S) s H → va_S (nof) s.heap H locs → ∀ ls : Array Slot, lv_has ls 4 [(3, .int (nI k)), (2, .int (sgF (A 2) x k)), (0, .ref (q 1)), (1, .int x)] → W p l e (headSpec wsX1_signersOf (rmO 3 41)).room s m ([.ref (q 1), .int x]).toArray below meth c H locs 0 0 (MQ below (roI (sgF (A 2) x nk)) ([.ref (q 1), .int x]).toArray s 0 0 nof) (F0 m 4 ls []) by
    exact KL4 nk 0 (by omega) _ _ hI hS ls ((lv_sub hl [0, 1, 2, 3] rfl))
  intro n9
  induction n9 with
  | zero =>
    intro k hk H locs hI hS ls hl
    have hk : nk = k := by omega
    subst hk
    refine lv_iload_n hx hb dX1_signersOf_4 rfl (lv_at hl 0 rfl) ?_
    refine lv_aload_n hx hb dX1_signersOf_5 rfl (lv_at hl 2 rfl) ?_
    refine r_get (C := RX1) (T := TX1) (N := 5) (k := 4) (q0 := 1) (v := .int (S 3)) hx hb hts hi1 hown hI rfl rfl (by decide) (hts (.fieldLink RX1 21 "Buildlots$Keys" "count" "I") (List.mem_of_getElem? (i := 1) rfl)) rfl rfl dX1_signersOf_6 ?_
    refine lv_icmp_ge (tgt := 38) hx hb dX1_signersOf_9 (by decide) (fun c9_1 => ?_) (fun c9_1 => ?_)
    rotate_left
    · exact absurd (i_ge rfl hc (Nat.le_refl _) (by omega)) c9_1
    refine lv_iload_n hx hb dX1_signersOf_38 rfl (lv_at hl 1 rfl) ?_
    exact end_roi hx hb hr rfl hS dX1_signersOf_39 hlk
  | succ n9 ih4 =>
    intro k hk H locs hI hS ls hl
    have hk4 : k < nk := by omega
    refine lv_iload_n hx hb dX1_signersOf_4 rfl (lv_at hl 0 rfl) ?_
    refine lv_aload_n hx hb dX1_signersOf_5 rfl (lv_at hl 2 rfl) ?_
    refine r_get (C := RX1) (T := TX1) (N := 5) (k := 4) (q0 := 1) (v := .int (S 3)) hx hb hts hi1 hown hI rfl rfl (by decide) (hts (.fieldLink RX1 21 "Buildlots$Keys" "count" "I") (List.mem_of_getElem? (i := 1) rfl)) rfl rfl dX1_signersOf_6 ?_
    refine lv_icmp_ge (tgt := 38) hx hb dX1_signersOf_9 (by decide) (fun c9_2 => ?_) (fun c9_2 => ?_)
    · exact absurd c9_2 (i_nge rfl hc (by omega) (by omega))
    refine lv_iload_n hx hb dX1_signersOf_12 rfl (lv_at hl 3 rfl) ?_
    refine lv_iload_n hx hb dX1_signersOf_13 rfl (lv_at hl 0 rfl) ?_
    refine ro_i (va_runSN (As := [.int x, .int (nI k)]) (rest := []) ⟨hx, hb, hml, hown, hts⟩ (c_X3_holds l x (nI k)) ⟨va_cnB (host := RX3) 2 hts gX1_signersOf_X3_holds_n28 rfl rfl rfl (hG.1.2.1 (RX1, 28, yX3_holds) (List.mem_of_getElem? (i := 6) rfl)) (hts (.initialized RX3) (List.mem_of_getElem? (i := 4) rfl)) (by decide +kernel) ⟨Nat.le_of_ble_eq_true rfl, Nat.le_of_ble_eq_true rfl⟩, (hts (.static yX3_holds) (List.mem_of_getElem? (i := 3) rfl)), trivial⟩ preT rfl rfl hl.1 rfl (lv_room (Nat.le_of_ble_eq_true rfl)) dX1_signersOf_14 ⟨Nat.le_of_ble_eq_true rfl, Nat.le_of_ble_eq_true rfl⟩) hI hS (fun H locs hI hS => ?_)
    refine r_ifeq_b (tgt := 32) hx hb dX1_signersOf_17 (by decide) (fun c17_3 => ?_) (fun c17_3 => ?_)
    · refine lv_iinc (v := nI (k + 1)) (lv' := [(3, .int (nI (k + 1))), (2, .int (sgF (A 2) x k)), (0, .ref (q 1)), (1, .int x)]) hx hb dX1_signersOf_32 hl (k := 0) rfl (nI_1 k) (by decide) rfl (fun ls hl => ?_)
      refine lv_goto (tgt := 4) hx hb dX1_signersOf_35 (by decide) ?_
      rw [show (sgF (A 2) x k) = (sgF (A 2) x (k + 1)) from (by first | (simp only [sgF, c9_2, c17_3, ↓reduceIte, Bool.false_eq_true, reduceCtorEq]; done) | simp [sgF, c9_2, c17_3])] at hl
      exact ih4 (k + 1) (by omega) _ _ hI hS ls (lv_sub hl [0, 1, 2, 3] rfl)
    · refine lv_iload_n hx hb dX1_signersOf_20 rfl (lv_at hl 1 rfl) ?_
      refine lv_aload_n hx hb dX1_signersOf_21 rfl (lv_at hl 2 rfl) ?_
      refine r_get (C := RX1) (T := TX1) (N := 5) (k := 0) (q0 := 1) (v := .ref (q 6)) hx hb hts hi1 hown hI rfl rfl (by decide) (hts (.fieldLink RX1 9 "Buildlots$Keys" "signers" "[I") (List.mem_of_getElem? (i := 2) rfl)) rfl rfl dX1_signersOf_22 ?_
      refine lv_iload_n hx hb dX1_signersOf_25 rfl (lv_at hl 0 rfl) ?_
      refine r_iald (q0 := 6) (j := k) (n := 8) (f := (A 2)) hx hb hI rfl rfl (by omega) (by decide) dX1_signersOf_26 ?_
      refine ro_i (va_runSN (As := [.int (A 2 k)]) (rest := [.int (sgF (A 2) x k)]) ⟨hx, hb, hml, hown, hts⟩ (c_X3_only l (A 2 k)) ⟨va_cnB (host := RX3) 1 hts gX1_signersOf_X3_only_n35 rfl rfl rfl (hG.1.2.1 (RX1, 35, yX3_only) (List.mem_of_getElem? (i := 7) rfl)) (hts (.initialized RX3) (List.mem_of_getElem? (i := 4) rfl)) (by decide +kernel) ⟨Nat.le_of_ble_eq_true rfl, Nat.le_of_ble_eq_true rfl⟩, (hts (.static yX3_only) (List.mem_of_getElem? (i := 7) rfl)), trivial⟩ preT rfl rfl hl.1 rfl (lv_room (Nat.le_of_ble_eq_true rfl)) dX1_signersOf_27 ⟨Nat.le_of_ble_eq_true rfl, Nat.le_of_ble_eq_true rfl⟩) hI hS (fun H locs hI hS => ?_)
      refine lv_ior hx hb dX1_signersOf_30 ?_
      refine lv_istore_n (lv' := [(2, .int ((sgF (A 2) x k) ||| (ly (A 2 k)))), (3, .int (nI k)), (0, .ref (q 1)), (1, .int x)]) hx hb dX1_signersOf_31 rfl hl (by decide) rfl (fun ls hl => ?_)
      refine lv_iinc (v := nI (k + 1)) (lv' := [(3, .int (nI (k + 1))), (2, .int ((sgF (A 2) x k) ||| (ly (A 2 k)))), (0, .ref (q 1)), (1, .int x)]) hx hb dX1_signersOf_32 hl (k := 1) rfl (nI_1 k) (by decide) rfl (fun ls hl => ?_)
      refine lv_goto (tgt := 4) hx hb dX1_signersOf_35 (by decide) ?_
      rw [show ((sgF (A 2) x k) ||| (ly (A 2 k))) = (sgF (A 2) x (k + 1)) from (by first | (simp only [sgF, c9_2, c17_3, ↓reduceIte, Bool.false_eq_true, reduceCtorEq]; done) | simp [sgF, c9_2, c17_3])] at hl
      exact ih4 (k + 1) (by omega) _ _ hI hS ls (lv_sub hl [0, 1, 2, 3] rfl)

