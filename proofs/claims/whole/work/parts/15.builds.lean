/-! Builds' and Mirrors' methods, Keys.append. Rows written by wip/whole/gen/part15.py. -/
def cF (f : Nat → Int32) (name : Int32) : Nat → Int32
  | 0 => 0
  | k + 1 => if f k = name then cF f name k + 1 else cF f name k
def wtF (g : Nat → Int32) (x : Int32) : Nat → Int32
  | 0 => x
  | k + 1 => if hold x (nI k) then wtF g x k ||| g k else wtF g x k
def rcF (g : Nat → Int32) (x : Int32) : Nat → Int32
  | 0 => x
  | k + 1 => if g k &&& x = 0 then rcF g x k else rcF g x k ||| ly (nI k)
def nwF (f : Nat → Int32) (name x : Int32) : Nat → Int32
  | 0 => -1
  | k + 1 => if f k = name then (if hold x (nI k) then nI k else nwF f name x k) else nwF f name x k
/-- the vouchers' row with the first k builds' reckoned anew -/
def kvF (A : Nat → Nat → Int32) (S : Nat → Int32) (day : Int32) (nk k : Nat) : Nat → Int32 := fun j => if j < k then sgF (A 2) (A 9 j &&& liveF A S day nk) nk else A 10 j
theorem uA_uA (A : Nat → Nat → Int32) (k : Nat) (f g : Nat → Int32) : uA (uA A k f) k g = uA A k g := by
  funext i; by_cases h : i = k <;> simp [uA, h]
theorem kv_step (A : Nat → Nat → Int32) (S : Nat → Int32) (day : Int32) (nk k : Nat) : upd (kvF A S day nk k) k (sgF (A 2) (A 9 k &&& liveF A S day nk) nk) = kvF A S day nk (k + 1) := by
  funext j
  by_cases h : j = k
  · subst h; simp [upd, kvF]
  · by_cases h2 : j < k
    · simp [upd, kvF, h, h2, Nat.lt_succ_of_lt h2]
    · have h3 : ¬ j < k + 1 := by omega
      simp [upd, kvF, h, h2, h3]
theorem kv_0 (A : Nat → Nat → Int32) (S : Nat → Int32) (day : Int32) (nk : Nat) : uA A 10 (kvF A S day nk 0) = A := by
  funext i j; by_cases h : i = 10 <;> simp [uA, kvF, h]
theorem wX_A {cy : Nat → ClassId} {q : Nat → Nat} {A A' : Nat → Nat → Int32} {S S' : Nat → Int32} (h : A = A') (h' : S = S') : wX cy q A S = wX cy q A' S' := by rw [h, h']

set_option maxHeartbeats 4000000 in
set_option maxRecDepth 100000 in
theorem c_X1_append (l : Launch) (D : va_G) (cy : Nat → ClassId) (h0 : Nat) (q : Nat → Nat) (A : Nat → Nat → Int32) (S : Nat → Int32) (signer : Int32) (first : Int32) (last : Int32) (nk : Nat) (hnk : nk ≤ 8) (hck : S 3 = nI nk) (hlt : nk < 8) : Met l yX1_append wsX1_append (rmO 1 0) (va_Pc [.ref (q 1), .int signer, .int first, .int last] (pI D cy h0 (wX cy q A S))) (rwI (S 3) D cy h0 (wX cy q (uA (uA (uA A 2 (upd (A 2) nk signer)) 3 (upd (A 3) nk first)) 4 (upd (A 4) nk last)) (uS S 3 (S 3 + 1))) (qA 19 q)) 0 0 (qA 19 q) := by
  refine Met.ofW (cc := cX1_append) (maxL := 5) (ret := (some .int)) (by decide) rfl ?_
  intro p e s m args below meth c s₁ B hml hv
  obtain ⟨rfl, hI⟩ := hv
  have hx := B.exec
  have hb := B.bytes
  have hr := B.returns
  have hts := atoms_spec (ws := wsX1_append) B.pre
  have hown : s.vm.findClass RX1 = some m.cls := findClass_of_methodNamed B.named
  have hlk := B.notSynchronized
  have hI : IH D cy h0 (wX cy q A S) s s.heap := hI
  have hG := hI.1
  have hqA := hA_X hI
  have hh0 : h0 ≤ s.heap.size := hI.1.2.2.2
  have hS : va_S nof s.heap s.heap [] := va_S.rf
  have hi1 : ∀ w ∈ wsX10, w ∈ wsX1_append := by decide +kernel
  have hl := lv_entry ([.ref (q 1), .int signer, .int first, .int last]) (n := 5) (Nat.le_of_ble_eq_true rfl)
  rw [lg_entry_eq]
  generalize (lg_sl ([.ref (q 1), .int signer, .int first, .int last]) ++ List.replicate (5 - (lg_sl ([.ref (q 1), .int signer, .int first, .int last])).length) Slot.unset).toArray = ls at hl ⊢
  have hl : lv_has ls 5 [(0, .ref (q 1)), (1, .int signer), (2, .int first), (3, .int last)] := hl
  refine lv_aload_n hx hb dX1_append_0 rfl (lv_at hl 0 rfl) ?_
  refine r_get (C := RX1) (T := TX1) (N := 5) (k := 4) (q0 := 1) (v := .int (S 3)) hx hb hts hi1 hown hI rfl rfl (by decide) (hts (.fieldLink RX1 21 "Buildlots$Keys" "count" "I") (List.mem_of_getElem? (i := 1) rfl)) rfl rfl dX1_append_1 ?_
  refine lv_istore (lv' := [(4, .int (S 3)), (0, .ref (q 1)), (1, .int signer), (2, .int first), (3, .int last)]) hx hb dX1_append_4 hl (by decide) rfl (fun ls hl => ?_)
  refine lv_aload_n hx hb dX1_append_6 rfl (lv_at hl 1 rfl) ?_
  refine r_get (C := RX1) (T := TX1) (N := 5) (k := 0) (q0 := 1) (v := .ref (q 6)) hx hb hts hi1 hown hI rfl rfl (by decide) (hts (.fieldLink RX1 9 "Buildlots$Keys" "signers" "[I") (List.mem_of_getElem? (i := 2) rfl)) rfl rfl dX1_append_7 ?_
  refine lv_iload hx hb dX1_append_10 (lv_at hl 0 rfl) ?_
  refine lv_iload_n hx hb dX1_append_12 rfl (lv_at hl 2 rfl) ?_
  have hS := hS.mono (B := qA 19 q) (fun _ h => h.elim)
  refine r_iast (w' := wX cy q (uA A 2 (upd (A 2) nk signer)) S) (q0 := 6) (j := nk) (n := 8) (f := (A 2)) hx hb hI hS hqA hh0 (qA_X hI) rfl hck hlt (by decide) dX1_append_13 rfl (fun H locs hI hS => ?_)
  refine lv_aload_n hx hb dX1_append_14 rfl (lv_at hl 1 rfl) ?_
  refine r_get (C := RX1) (T := TX1) (N := 5) (k := 1) (q0 := 1) (v := .ref (q 7)) hx hb hts hi1 hown hI rfl rfl (by decide) (hts (.fieldLink RX1 15 "Buildlots$Keys" "firsts" "[I") (List.mem_of_getElem? (i := 3) rfl)) rfl rfl dX1_append_15 ?_
  refine lv_iload hx hb dX1_append_18 (lv_at hl 0 rfl) ?_
  refine lv_iload_n hx hb dX1_append_20 rfl (lv_at hl 3 rfl) ?_
  refine r_iast (w' := wX cy q (uA (uA A 2 (upd (A 2) nk signer)) 3 (upd (A 3) nk first)) S) (q0 := 7) (j := nk) (n := 8) (f := (A 3)) hx hb hI hS hqA hh0 (qA_X hI) rfl hck hlt (by decide) dX1_append_21 rfl (fun H locs hI hS => ?_)
  refine lv_aload_n hx hb dX1_append_22 rfl (lv_at hl 1 rfl) ?_
  refine r_get (C := RX1) (T := TX1) (N := 5) (k := 2) (q0 := 1) (v := .ref (q 8)) hx hb hts hi1 hown hI rfl rfl (by decide) (hts (.fieldLink RX1 18 "Buildlots$Keys" "lasts" "[I") (List.mem_of_getElem? (i := 4) rfl)) rfl rfl dX1_append_23 ?_
  refine lv_iload hx hb dX1_append_26 (lv_at hl 0 rfl) ?_
  refine lv_iload_n hx hb dX1_append_28 rfl (lv_at hl 4 rfl) ?_
  refine r_iast (w' := wX cy q (uA (uA (uA A 2 (upd (A 2) nk signer)) 3 (upd (A 3) nk first)) 4 (upd (A 4) nk last)) S) (q0 := 8) (j := nk) (n := 8) (f := (A 4)) hx hb hI hS hqA hh0 (qA_X hI) rfl hck hlt (by decide) dX1_append_29 rfl (fun H locs hI hS => ?_)
  refine lv_aload_n hx hb dX1_append_30 rfl (lv_at hl 1 rfl) ?_
  refine lv_dup hx hb dX1_append_31 rfl ?_
  refine r_get (C := RX1) (T := TX1) (N := 5) (k := 4) (q0 := 1) (v := .int (S 3)) hx hb hts hi1 hown hI rfl rfl (by decide) (hts (.fieldLink RX1 21 "Buildlots$Keys" "count" "I") (List.mem_of_getElem? (i := 1) rfl)) rfl rfl dX1_append_32 ?_
  refine lv_iconst (v := 1) hx hb dX1_append_35 (by decide) ?_
  refine lv_iadd hx hb dX1_append_36 ?_
  refine r_put (w' := wX cy q (uA (uA (uA A 2 (upd (A 2) nk signer)) 3 (upd (A 3) nk first)) 4 (upd (A 4) nk last)) (uS S 3 ((S 3) + 1))) (C := RX1) (T := TX1) (N := 5) (k := 4) (q0 := 1) (ty := .int) (v := .int ((S 3) + 1)) hx hb hts hi1 tyX1_ok nmX1 hown hI hS hqA hh0 (qA_X hI) rfl rfl (by decide) (hts (.fieldLink RX1 21 "Buildlots$Keys" "count" "I") (List.mem_of_getElem? (i := 1) rfl)) rfl rfl (by decide +kernel) rfl rfl (Nat.le_of_ble_eq_true rfl) dX1_append_37 rfl (fun H locs hI hS => ?_)
  refine lv_iload hx hb dX1_append_40 (lv_at hl 0 rfl) ?_
  rw [show wX cy q (uA (uA (uA A 2 (upd (A 2) nk signer)) 3 (upd (A 3) nk first)) 4 (upd (A 4) nk last)) (uS S 3 ((S 3) + 1)) = wX cy q (uA (uA (uA A 2 (upd (A 2) nk signer)) 3 (upd (A 3) nk first)) 4 (upd (A 4) nk last)) (uS S 3 (S 3 + 1)) from rfl] at hI
  exact end_rwi hx hb hr rfl hI hS dX1_append_42 hlk

set_option maxHeartbeats 4000000 in
set_option maxRecDepth 100000 in
theorem c_X0_countOf (l : Launch) (D : va_G) (cy : Nat → ClassId) (h0 : Nat) (q : Nat → Nat) (A : Nat → Nat → Int32) (S : Nat → Int32) (name : Int32) (nb : Nat) (hnb : nb ≤ 24) (hcb : S 5 = nI nb) : Met l yX0_countOf wsX0_countOf (rmO 1 0) (va_Pc [.ref (q 2), .int name] (pI D cy h0 (wX cy q A S))) (roI (cF (A 5) name nb)) 0 0 nof := by
  refine Met.ofW (cc := cX0_countOf) (maxL := 4) (ret := (some .int)) (by decide) rfl ?_
  intro p e s m args below meth c s₁ B hml hv
  obtain ⟨rfl, hI⟩ := hv
  have hx := B.exec
  have hb := B.bytes
  have hr := B.returns
  have hts := atoms_spec (ws := wsX0_countOf) B.pre
  have hown : s.vm.findClass RX0 = some m.cls := findClass_of_methodNamed B.named
  have hlk := B.notSynchronized
  have hI : IH D cy h0 (wX cy q A S) s s.heap := hI
  have hG := hI.1
  have hS : va_S nof s.heap s.heap [] := va_S.rf
  have hi0 : ∀ w ∈ wsX00, w ∈ wsX0_countOf := by decide +kernel
  have hl := lv_entry ([.ref (q 2), .int name]) (n := 4) (Nat.le_of_ble_eq_true rfl)
  rw [lg_entry_eq]
  generalize (lg_sl ([.ref (q 2), .int name]) ++ List.replicate (4 - (lg_sl ([.ref (q 2), .int name])).length) Slot.unset).toArray = ls at hl ⊢
  have hl : lv_has ls 4 [(0, .ref (q 2)), (1, .int name)] := hl
  refine lv_iconst (v := 0) hx hb dX0_countOf_0 (by decide) ?_
  refine lv_istore_n (lv' := [(2, .int 0), (0, .ref (q 2)), (1, .int name)]) hx hb dX0_countOf_1 rfl hl (by decide) rfl (fun ls hl => ?_)
  refine lv_iconst (v := 0) hx hb dX0_countOf_2 (by decide) ?_
  refine lv_istore_n (lv' := [(3, .int 0), (2, .int 0), (0, .ref (q 2)), (1, .int name)]) hx hb dX0_countOf_3 rfl hl (by decide) rfl (fun ls hl => ?_)
  suffices KL4 : ∀ (n9 k : Nat), k + n9 = nb → ∀ (H : Heap) (locs : List Loc), IH D cy h0 (wX cy q A S) s H → va_S (nof) s.heap H locs → ∀ ls : Array Slot, lv_has ls 4 [(3, .int (nI k)), (2, .int (cF (A 5) name k)), (0, .ref (q 2)), (1, .int name)] → W p l e (headSpec wsX0_countOf (rmO 1 0)).room s m ([.ref (q 2), .int name]).toArray below meth c H locs 0 0 (MQ below (roI (cF (A 5) name nb)) ([.ref (q 2), .int name]).toArray s 0 0 nof) (F0 m 4 ls []) by
    exact KL4 nb 0 (by omega) _ _ hI hS ls ((lv_sub hl [0, 1, 2, 3] rfl))
  intro n9
  induction n9 with
  | zero =>
    intro k hk H locs hI hS ls hl
    have hk : nb = k := by omega
    subst hk
    refine lv_iload_n hx hb dX0_countOf_4 rfl (lv_at hl 0 rfl) ?_
    refine lv_aload_n hx hb dX0_countOf_5 rfl (lv_at hl 2 rfl) ?_
    refine r_get (C := RX0) (T := TX0) (N := 10) (k := 9) (q0 := 2) (v := .int (S 5)) hx hb hts hi0 hown hI rfl rfl (by decide) (hts (.fieldLink RX0 36 "Buildlots$Builds" "count" "I") (List.mem_of_getElem? (i := 1) rfl)) rfl rfl dX0_countOf_6 ?_
    refine lv_icmp_ge (tgt := 31) hx hb dX0_countOf_9 (by decide) (fun c9_1 => ?_) (fun c9_1 => ?_)
    rotate_left
    · exact absurd (i_ge rfl hcb (Nat.le_refl _) (by omega)) c9_1
    refine lv_iload_n hx hb dX0_countOf_31 rfl (lv_at hl 1 rfl) ?_
    exact end_roi hx hb hr rfl hS dX0_countOf_32 hlk
  | succ n9 ih4 =>
    intro k hk H locs hI hS ls hl
    have hk4 : k < nb := by omega
    refine lv_iload_n hx hb dX0_countOf_4 rfl (lv_at hl 0 rfl) ?_
    refine lv_aload_n hx hb dX0_countOf_5 rfl (lv_at hl 2 rfl) ?_
    refine r_get (C := RX0) (T := TX0) (N := 10) (k := 9) (q0 := 2) (v := .int (S 5)) hx hb hts hi0 hown hI rfl rfl (by decide) (hts (.fieldLink RX0 36 "Buildlots$Builds" "count" "I") (List.mem_of_getElem? (i := 1) rfl)) rfl rfl dX0_countOf_6 ?_
    refine lv_icmp_ge (tgt := 31) hx hb dX0_countOf_9 (by decide) (fun c9_2 => ?_) (fun c9_2 => ?_)
    · exact absurd c9_2 (i_nge rfl hcb (by omega) (by omega))
    refine lv_aload_n hx hb dX0_countOf_12 rfl (lv_at hl 2 rfl) ?_
    refine r_get (C := RX0) (T := TX0) (N := 10) (k := 0) (q0 := 2) (v := .ref (q 9)) hx hb hts hi0 hown hI rfl rfl (by decide) (hts (.fieldLink RX0 9 "Buildlots$Builds" "names" "[I") (List.mem_of_getElem? (i := 2) rfl)) rfl rfl dX0_countOf_13 ?_
    refine lv_iload_n hx hb dX0_countOf_16 rfl (lv_at hl 0 rfl) ?_
    refine r_iald (q0 := 9) (j := k) (n := 24) (f := (A 5)) hx hb hI rfl rfl (by omega) (by decide) dX0_countOf_17 ?_
    refine lv_iload_n hx hb dX0_countOf_18 rfl (lv_at hl 3 rfl) ?_
    refine lv_icmp_ne (tgt := 25) hx hb dX0_countOf_19 (by decide) (fun c19_3 => ?_) (fun c19_3 => ?_)
    · refine lv_iinc (v := nI (k + 1)) (lv' := [(3, .int (nI (k + 1))), (2, .int (cF (A 5) name k)), (0, .ref (q 2)), (1, .int name)]) hx hb dX0_countOf_25 hl (k := 0) rfl (nI_1 k) (by decide) rfl (fun ls hl => ?_)
      refine lv_goto (tgt := 4) hx hb dX0_countOf_28 (by decide) ?_
      rw [show (cF (A 5) name k) = (cF (A 5) name (k + 1)) from (by first | (simp only [cF, c9_2, c19_3, ↓reduceIte, Bool.false_eq_true, reduceCtorEq]; done) | simp [cF, c9_2, c19_3])] at hl
      exact ih4 (k + 1) (by omega) _ _ hI hS ls (lv_sub hl [0, 1, 2, 3] rfl)
    · refine lv_iinc (v := (cF (A 5) name k) + 1) (lv' := [(2, .int ((cF (A 5) name k) + 1)), (3, .int (nI k)), (0, .ref (q 2)), (1, .int name)]) hx hb dX0_countOf_22 hl (k := 1) rfl rfl (by decide) rfl (fun ls hl => ?_)
      refine lv_iinc (v := nI (k + 1)) (lv' := [(3, .int (nI (k + 1))), (2, .int ((cF (A 5) name k) + 1)), (0, .ref (q 2)), (1, .int name)]) hx hb dX0_countOf_25 hl (k := 1) rfl (nI_1 k) (by decide) rfl (fun ls hl => ?_)
      refine lv_goto (tgt := 4) hx hb dX0_countOf_28 (by decide) ?_
      rw [show ((cF (A 5) name k) + 1) = (cF (A 5) name (k + 1)) from (by first | (simp only [cF, c9_2, c19_3, ↓reduceIte, Bool.false_eq_true, reduceCtorEq]; done) | simp [cF, c9_2, c19_3])] at hl
      exact ih4 (k + 1) (by omega) _ _ hI hS ls (lv_sub hl [0, 1, 2, 3] rfl)

set_option maxHeartbeats 4000000 in
set_option maxRecDepth 100000 in
theorem c_X0_withTheirSources (l : Launch) (D : va_G) (cy : Nat → ClassId) (h0 : Nat) (q : Nat → Nat) (A : Nat → Nat → Int32) (S : Nat → Int32) (x : Int32) (nb : Nat) (hnb : nb ≤ 24) (hcb : S 5 = nI nb) : Met l yX0_withTheirSources wsX0_withTheirSources (rmO 3 41) (va_Pc [.ref (q 2), .int x] (pI D cy h0 (wX cy q A S))) (roI (wtF (A 7) x nb)) 0 0 nof := by
  refine Met.ofW (cc := cX0_withTheirSources) (maxL := 4) (ret := (some .int)) (by decide) rfl ?_
  intro p e s m args below meth c s₁ B hml hv
  obtain ⟨rfl, hI⟩ := hv
  have hx := B.exec
  have hb := B.bytes
  have hr := B.returns
  have hts := atoms_spec (ws := wsX0_withTheirSources) B.pre
  have hown : s.vm.findClass RX0 = some m.cls := findClass_of_methodNamed B.named
  have hlk := B.notSynchronized
  have hI : IH D cy h0 (wX cy q A S) s s.heap := hI
  have hG := hI.1
  have hS : va_S nof s.heap s.heap [] := va_S.rf
  have hi0 : ∀ w ∈ wsX00, w ∈ wsX0_withTheirSources := by decide +kernel
  have hl := lv_entry ([.ref (q 2), .int x]) (n := 4) (Nat.le_of_ble_eq_true rfl)
  rw [lg_entry_eq]
  generalize (lg_sl ([.ref (q 2), .int x]) ++ List.replicate (4 - (lg_sl ([.ref (q 2), .int x])).length) Slot.unset).toArray = ls at hl ⊢
  have hl : lv_has ls 4 [(0, .ref (q 2)), (1, .int x)] := hl
  refine lv_iload_n hx hb dX0_withTheirSources_0 rfl (lv_at hl 1 rfl) ?_
  refine lv_istore_n (lv' := [(2, .int x), (0, .ref (q 2)), (1, .int x)]) hx hb dX0_withTheirSources_1 rfl hl (by decide) rfl (fun ls hl => ?_)
  refine lv_iconst (v := 0) hx hb dX0_withTheirSources_2 (by decide) ?_
  refine lv_istore_n (lv' := [(3, .int 0), (2, .int x), (0, .ref (q 2)), (1, .int x)]) hx hb dX0_withTheirSources_3 rfl hl (by decide) rfl (fun ls hl => ?_)
  suffices KL4 : ∀ (n9 k : Nat), k + n9 = nb → ∀ (H : Heap) (locs : List Loc), IH D cy h0 (wX cy q A S) s H → va_S (nof) s.heap H locs → ∀ ls : Array Slot, lv_has ls 4 [(3, .int (nI k)), (2, .int (wtF (A 7) x k)), (0, .ref (q 2)), (1, .int x)] → W p l e (headSpec wsX0_withTheirSources (rmO 3 41)).room s m ([.ref (q 2), .int x]).toArray below meth c H locs 0 0 (MQ below (roI (wtF (A 7) x nb)) ([.ref (q 2), .int x]).toArray s 0 0 nof) (F0 m 4 ls []) by
    exact KL4 nb 0 (by omega) _ _ hI hS ls ((lv_sub hl [0, 1, 2, 3] rfl))
  intro n9
  induction n9 with
  | zero =>
    intro k hk H locs hI hS ls hl
    have hk : nb = k := by omega
    subst hk
    refine lv_iload_n hx hb dX0_withTheirSources_4 rfl (lv_at hl 0 rfl) ?_
    refine lv_aload_n hx hb dX0_withTheirSources_5 rfl (lv_at hl 2 rfl) ?_
    refine r_get (C := RX0) (T := TX0) (N := 10) (k := 9) (q0 := 2) (v := .int (S 5)) hx hb hts hi0 hown hI rfl rfl (by decide) (hts (.fieldLink RX0 36 "Buildlots$Builds" "count" "I") (List.mem_of_getElem? (i := 1) rfl)) rfl rfl dX0_withTheirSources_6 ?_
    refine lv_icmp_ge (tgt := 35) hx hb dX0_withTheirSources_9 (by decide) (fun c9_1 => ?_) (fun c9_1 => ?_)
    rotate_left
    · exact absurd (i_ge rfl hcb (Nat.le_refl _) (by omega)) c9_1
    refine lv_iload_n hx hb dX0_withTheirSources_35 rfl (lv_at hl 1 rfl) ?_
    exact end_roi hx hb hr rfl hS dX0_withTheirSources_36 hlk
  | succ n9 ih4 =>
    intro k hk H locs hI hS ls hl
    have hk4 : k < nb := by omega
    refine lv_iload_n hx hb dX0_withTheirSources_4 rfl (lv_at hl 0 rfl) ?_
    refine lv_aload_n hx hb dX0_withTheirSources_5 rfl (lv_at hl 2 rfl) ?_
    refine r_get (C := RX0) (T := TX0) (N := 10) (k := 9) (q0 := 2) (v := .int (S 5)) hx hb hts hi0 hown hI rfl rfl (by decide) (hts (.fieldLink RX0 36 "Buildlots$Builds" "count" "I") (List.mem_of_getElem? (i := 1) rfl)) rfl rfl dX0_withTheirSources_6 ?_
    refine lv_icmp_ge (tgt := 35) hx hb dX0_withTheirSources_9 (by decide) (fun c9_2 => ?_) (fun c9_2 => ?_)
    · exact absurd c9_2 (i_nge rfl hcb (by omega) (by omega))
    refine lv_iload_n hx hb dX0_withTheirSources_12 rfl (lv_at hl 3 rfl) ?_
    refine lv_iload_n hx hb dX0_withTheirSources_13 rfl (lv_at hl 0 rfl) ?_
    refine ro_i (va_runSN (As := [.int x, .int (nI k)]) (rest := []) ⟨hx, hb, hml, hown, hts⟩ (c_X3_holds l x (nI k)) ⟨va_cnB (host := RX3) 2 hts gX0_withTheirSources_X3_holds_n47 rfl rfl rfl (hG.1.2.1 (RX0, 47, yX3_holds) (List.mem_of_getElem? (i := 14) rfl)) (hts (.initialized RX3) (List.mem_of_getElem? (i := 4) rfl)) (by decide +kernel) ⟨Nat.le_of_ble_eq_true rfl, Nat.le_of_ble_eq_true rfl⟩, (hts (.static yX3_holds) (List.mem_of_getElem? (i := 3) rfl)), trivial⟩ preT rfl rfl hl.1 rfl (lv_room (Nat.le_of_ble_eq_true rfl)) dX0_withTheirSources_14 ⟨Nat.le_of_ble_eq_true rfl, Nat.le_of_ble_eq_true rfl⟩) hI hS (fun H locs hI hS => ?_)
    refine r_ifeq_b (tgt := 29) hx hb dX0_withTheirSources_17 (by decide) (fun c17_3 => ?_) (fun c17_3 => ?_)
    · refine lv_iinc (v := nI (k + 1)) (lv' := [(3, .int (nI (k + 1))), (2, .int (wtF (A 7) x k)), (0, .ref (q 2)), (1, .int x)]) hx hb dX0_withTheirSources_29 hl (k := 0) rfl (nI_1 k) (by decide) rfl (fun ls hl => ?_)
      refine lv_goto (tgt := 4) hx hb dX0_withTheirSources_32 (by decide) ?_
      rw [show (wtF (A 7) x k) = (wtF (A 7) x (k + 1)) from (by first | (simp only [wtF, c9_2, c17_3, ↓reduceIte, Bool.false_eq_true, reduceCtorEq]; done) | simp [wtF, c9_2, c17_3])] at hl
      exact ih4 (k + 1) (by omega) _ _ hI hS ls (lv_sub hl [0, 1, 2, 3] rfl)
    · refine lv_iload_n hx hb dX0_withTheirSources_20 rfl (lv_at hl 1 rfl) ?_
      refine lv_aload_n hx hb dX0_withTheirSources_21 rfl (lv_at hl 2 rfl) ?_
      refine r_get (C := RX0) (T := TX0) (N := 10) (k := 2) (q0 := 2) (v := .ref (q 11)) hx hb hts hi0 hown hI rfl rfl (by decide) (hts (.fieldLink RX0 18 "Buildlots$Builds" "sources" "[I") (List.mem_of_getElem? (i := 2) rfl)) rfl rfl dX0_withTheirSources_22 ?_
      refine lv_iload_n hx hb dX0_withTheirSources_25 rfl (lv_at hl 0 rfl) ?_
      refine r_iald (q0 := 11) (j := k) (n := 24) (f := (A 7)) hx hb hI rfl rfl (by omega) (by decide) dX0_withTheirSources_26 ?_
      refine lv_ior hx hb dX0_withTheirSources_27 ?_
      refine lv_istore_n (lv' := [(2, .int ((wtF (A 7) x k) ||| (A 7 k))), (3, .int (nI k)), (0, .ref (q 2)), (1, .int x)]) hx hb dX0_withTheirSources_28 rfl hl (by decide) rfl (fun ls hl => ?_)
      refine lv_iinc (v := nI (k + 1)) (lv' := [(3, .int (nI (k + 1))), (2, .int ((wtF (A 7) x k) ||| (A 7 k))), (0, .ref (q 2)), (1, .int x)]) hx hb dX0_withTheirSources_29 hl (k := 1) rfl (nI_1 k) (by decide) rfl (fun ls hl => ?_)
      refine lv_goto (tgt := 4) hx hb dX0_withTheirSources_32 (by decide) ?_
      rw [show ((wtF (A 7) x k) ||| (A 7 k)) = (wtF (A 7) x (k + 1)) from (by first | (simp only [wtF, c9_2, c17_3, ↓reduceIte, Bool.false_eq_true, reduceCtorEq]; done) | simp [wtF, c9_2, c17_3])] at hl
      exact ih4 (k + 1) (by omega) _ _ hI hS ls (lv_sub hl [0, 1, 2, 3] rfl)

set_option maxHeartbeats 4000000 in
set_option maxRecDepth 100000 in
theorem c_X0_all (l : Launch) (D : va_G) (cy : Nat → ClassId) (h0 : Nat) (q : Nat → Nat) (A : Nat → Nat → Int32) (S : Nat → Int32) : Met l yX0_all wsX0_all (rmO 2 20) (va_Pc [.ref (q 2)] (pI D cy h0 (wX cy q A S))) (roI (ly (S 5) - 1)) 0 0 nof := by
  refine Met.ofW (cc := cX0_all) (maxL := 1) (ret := (some .int)) (by decide) rfl ?_
  intro p e s m args below meth c s₁ B hml hv
  obtain ⟨rfl, hI⟩ := hv
  have hx := B.exec
  have hb := B.bytes
  have hr := B.returns
  have hts := atoms_spec (ws := wsX0_all) B.pre
  have hown : s.vm.findClass RX0 = some m.cls := findClass_of_methodNamed B.named
  have hlk := B.notSynchronized
  have hI : IH D cy h0 (wX cy q A S) s s.heap := hI
  have hG := hI.1
  have hS : va_S nof s.heap s.heap [] := va_S.rf
  have hi0 : ∀ w ∈ wsX00, w ∈ wsX0_all := by decide +kernel
  have hl := lv_entry ([.ref (q 2)]) (n := 1) (Nat.le_of_ble_eq_true rfl)
  rw [lg_entry_eq]
  generalize (lg_sl ([.ref (q 2)]) ++ List.replicate (1 - (lg_sl ([.ref (q 2)])).length) Slot.unset).toArray = ls at hl ⊢
  have hl : lv_has ls 1 [(0, .ref (q 2))] := hl
  refine lv_aload_n hx hb dX0_all_0 rfl (lv_at hl 0 rfl) ?_
  refine r_get (C := RX0) (T := TX0) (N := 10) (k := 9) (q0 := 2) (v := .int (S 5)) hx hb hts hi0 hown hI rfl rfl (by decide) (hts (.fieldLink RX0 36 "Buildlots$Builds" "count" "I") (List.mem_of_getElem? (i := 1) rfl)) rfl rfl dX0_all_1 ?_
  refine ro_i (va_runSN (As := [.int (S 5)]) (rest := []) ⟨hx, hb, hml, hown, hts⟩ (c_X3_only l (S 5)) ⟨va_cnB (host := RX3) 1 hts gX0_all_X3_only_n51 rfl rfl rfl (hG.1.2.1 (RX0, 51, yX3_only) (List.mem_of_getElem? (i := 11) rfl)) (hts (.initialized RX3) (List.mem_of_getElem? (i := 3) rfl)) (by decide +kernel) ⟨Nat.le_of_ble_eq_true rfl, Nat.le_of_ble_eq_true rfl⟩, (hts (.static yX3_only) (List.mem_of_getElem? (i := 2) rfl)), trivial⟩ preT rfl rfl hl.1 rfl (lv_room (Nat.le_of_ble_eq_true rfl)) dX0_all_4 ⟨Nat.le_of_ble_eq_true rfl, Nat.le_of_ble_eq_true rfl⟩) hI hS (fun H locs hI hS => ?_)
  refine lv_iconst (v := 1) hx hb dX0_all_7 (by decide) ?_
  refine lv_isub hx hb dX0_all_8 ?_
  exact end_roi hx hb hr rfl hS dX0_all_9 hlk

set_option maxHeartbeats 4000000 in
set_option maxRecDepth 100000 in
theorem c_X0_recalled (l : Launch) (D : va_G) (cy : Nat → ClassId) (h0 : Nat) (q : Nat → Nat) (A : Nat → Nat → Int32) (S : Nat → Int32) (nb : Nat) (hnb : nb ≤ 24) (hcb : S 5 = nI nb) : Met l yX0_recalled wsX0_recalled (rmO 2 20) (va_Pc [.ref (q 2)] (pI D cy h0 (wX cy q A S))) (roI (rcF (A 7) (S 4) nb)) 0 0 nof := by
  refine Met.ofW (cc := cX0_recalled) (maxL := 3) (ret := (some .int)) (by decide) rfl ?_
  intro p e s m args below meth c s₁ B hml hv
  obtain ⟨rfl, hI⟩ := hv
  have hx := B.exec
  have hb := B.bytes
  have hr := B.returns
  have hts := atoms_spec (ws := wsX0_recalled) B.pre
  have hown : s.vm.findClass RX0 = some m.cls := findClass_of_methodNamed B.named
  have hlk := B.notSynchronized
  have hI : IH D cy h0 (wX cy q A S) s s.heap := hI
  have hG := hI.1
  have hS : va_S nof s.heap s.heap [] := va_S.rf
  have hi0 : ∀ w ∈ wsX00, w ∈ wsX0_recalled := by decide +kernel
  have hl := lv_entry ([.ref (q 2)]) (n := 3) (Nat.le_of_ble_eq_true rfl)
  rw [lg_entry_eq]
  generalize (lg_sl ([.ref (q 2)]) ++ List.replicate (3 - (lg_sl ([.ref (q 2)])).length) Slot.unset).toArray = ls at hl ⊢
  have hl : lv_has ls 3 [(0, .ref (q 2))] := hl
  refine lv_aload_n hx hb dX0_recalled_0 rfl (lv_at hl 0 rfl) ?_
  refine r_get (C := RX0) (T := TX0) (N := 10) (k := 8) (q0 := 2) (v := .int (S 4)) hx hb hts hi0 hown hI rfl rfl (by decide) (hts (.fieldLink RX0 54 "Buildlots$Builds" "marked" "I") (List.mem_of_getElem? (i := 1) rfl)) rfl rfl dX0_recalled_1 ?_
  refine lv_istore_n (lv' := [(1, .int (S 4)), (0, .ref (q 2))]) hx hb dX0_recalled_4 rfl hl (by decide) rfl (fun ls hl => ?_)
  refine lv_iconst (v := 0) hx hb dX0_recalled_5 (by decide) ?_
  refine lv_istore_n (lv' := [(2, .int 0), (1, .int (S 4)), (0, .ref (q 2))]) hx hb dX0_recalled_6 rfl hl (by decide) rfl (fun ls hl => ?_)
  suffices KL7 : ∀ (n9 k : Nat), k + n9 = nb → ∀ (H : Heap) (locs : List Loc), IH D cy h0 (wX cy q A S) s H → va_S (nof) s.heap H locs → ∀ ls : Array Slot, lv_has ls 3 [(2, .int (nI k)), (1, .int (rcF (A 7) (S 4) k)), (0, .ref (q 2))] → W p l e (headSpec wsX0_recalled (rmO 2 20)).room s m ([.ref (q 2)]).toArray below meth c H locs 0 0 (MQ below (roI (rcF (A 7) (S 4) nb)) ([.ref (q 2)]).toArray s 0 0 nof) (F0 m 7 ls []) by
    exact KL7 nb 0 (by omega) _ _ hI hS ls ((lv_sub hl [0, 1, 2] rfl))
  intro n9
  induction n9 with
  | zero =>
    intro k hk H locs hI hS ls hl
    have hk : nb = k := by omega
    subst hk
    refine lv_iload_n hx hb dX0_recalled_7 rfl (lv_at hl 0 rfl) ?_
    refine lv_aload_n hx hb dX0_recalled_8 rfl (lv_at hl 2 rfl) ?_
    refine r_get (C := RX0) (T := TX0) (N := 10) (k := 9) (q0 := 2) (v := .int (S 5)) hx hb hts hi0 hown hI rfl rfl (by decide) (hts (.fieldLink RX0 36 "Buildlots$Builds" "count" "I") (List.mem_of_getElem? (i := 2) rfl)) rfl rfl dX0_recalled_9 ?_
    refine lv_icmp_ge (tgt := 42) hx hb dX0_recalled_12 (by decide) (fun c12_1 => ?_) (fun c12_1 => ?_)
    rotate_left
    · exact absurd (i_ge rfl hcb (Nat.le_refl _) (by omega)) c12_1
    refine lv_iload_n hx hb dX0_recalled_42 rfl (lv_at hl 1 rfl) ?_
    exact end_roi hx hb hr rfl hS dX0_recalled_43 hlk
  | succ n9 ih7 =>
    intro k hk H locs hI hS ls hl
    have hk7 : k < nb := by omega
    refine lv_iload_n hx hb dX0_recalled_7 rfl (lv_at hl 0 rfl) ?_
    refine lv_aload_n hx hb dX0_recalled_8 rfl (lv_at hl 2 rfl) ?_
    refine r_get (C := RX0) (T := TX0) (N := 10) (k := 9) (q0 := 2) (v := .int (S 5)) hx hb hts hi0 hown hI rfl rfl (by decide) (hts (.fieldLink RX0 36 "Buildlots$Builds" "count" "I") (List.mem_of_getElem? (i := 2) rfl)) rfl rfl dX0_recalled_9 ?_
    refine lv_icmp_ge (tgt := 42) hx hb dX0_recalled_12 (by decide) (fun c12_2 => ?_) (fun c12_2 => ?_)
    · exact absurd c12_2 (i_nge rfl hcb (by omega) (by omega))
    refine lv_aload_n hx hb dX0_recalled_15 rfl (lv_at hl 2 rfl) ?_
    refine r_get (C := RX0) (T := TX0) (N := 10) (k := 2) (q0 := 2) (v := .ref (q 11)) hx hb hts hi0 hown hI rfl rfl (by decide) (hts (.fieldLink RX0 18 "Buildlots$Builds" "sources" "[I") (List.mem_of_getElem? (i := 3) rfl)) rfl rfl dX0_recalled_16 ?_
    refine lv_iload_n hx hb dX0_recalled_19 rfl (lv_at hl 0 rfl) ?_
    refine r_iald (q0 := 11) (j := k) (n := 24) (f := (A 7)) hx hb hI rfl rfl (by omega) (by decide) dX0_recalled_20 ?_
    refine lv_aload_n hx hb dX0_recalled_21 rfl (lv_at hl 2 rfl) ?_
    refine r_get (C := RX0) (T := TX0) (N := 10) (k := 8) (q0 := 2) (v := .int (S 4)) hx hb hts hi0 hown hI rfl rfl (by decide) (hts (.fieldLink RX0 54 "Buildlots$Builds" "marked" "I") (List.mem_of_getElem? (i := 1) rfl)) rfl rfl dX0_recalled_22 ?_
    refine lv_iand hx hb dX0_recalled_25 ?_
    refine lv_if_eq (tgt := 36) hx hb dX0_recalled_26 (by decide) (fun c26_3 => ?_) (fun c26_3 => ?_)
    · refine lv_iinc (v := nI (k + 1)) (lv' := [(2, .int (nI (k + 1))), (1, .int (rcF (A 7) (S 4) k)), (0, .ref (q 2))]) hx hb dX0_recalled_36 hl (k := 0) rfl (nI_1 k) (by decide) rfl (fun ls hl => ?_)
      refine lv_goto (tgt := 7) hx hb dX0_recalled_39 (by decide) ?_
      rw [show (rcF (A 7) (S 4) k) = (rcF (A 7) (S 4) (k + 1)) from (by first | (simp only [rcF, c12_2, c26_3, ↓reduceIte, Bool.false_eq_true, reduceCtorEq]; done) | simp [rcF, c12_2, c26_3])] at hl
      exact ih7 (k + 1) (by omega) _ _ hI hS ls (lv_sub hl [0, 1, 2] rfl)
    · refine lv_iload_n hx hb dX0_recalled_29 rfl (lv_at hl 1 rfl) ?_
      refine lv_iload_n hx hb dX0_recalled_30 rfl (lv_at hl 0 rfl) ?_
      refine ro_i (va_runSN (As := [.int (nI k)]) (rest := [.int (rcF (A 7) (S 4) k)]) ⟨hx, hb, hml, hown, hts⟩ (c_X3_only l (nI k)) ⟨va_cnB (host := RX3) 1 hts gX0_recalled_X3_only_n51 rfl rfl rfl (hG.1.2.1 (RX0, 51, yX3_only) (List.mem_of_getElem? (i := 11) rfl)) (hts (.initialized RX3) (List.mem_of_getElem? (i := 5) rfl)) (by decide +kernel) ⟨Nat.le_of_ble_eq_true rfl, Nat.le_of_ble_eq_true rfl⟩, (hts (.static yX3_only) (List.mem_of_getElem? (i := 4) rfl)), trivial⟩ preT rfl rfl hl.1 rfl (lv_room (Nat.le_of_ble_eq_true rfl)) dX0_recalled_31 ⟨Nat.le_of_ble_eq_true rfl, Nat.le_of_ble_eq_true rfl⟩) hI hS (fun H locs hI hS => ?_)
      refine lv_ior hx hb dX0_recalled_34 ?_
      refine lv_istore_n (lv' := [(1, .int ((rcF (A 7) (S 4) k) ||| (ly (nI k)))), (2, .int (nI k)), (0, .ref (q 2))]) hx hb dX0_recalled_35 rfl hl (by decide) rfl (fun ls hl => ?_)
      refine lv_iinc (v := nI (k + 1)) (lv' := [(2, .int (nI (k + 1))), (1, .int ((rcF (A 7) (S 4) k) ||| (ly (nI k)))), (0, .ref (q 2))]) hx hb dX0_recalled_36 hl (k := 1) rfl (nI_1 k) (by decide) rfl (fun ls hl => ?_)
      refine lv_goto (tgt := 7) hx hb dX0_recalled_39 (by decide) ?_
      rw [show ((rcF (A 7) (S 4) k) ||| (ly (nI k))) = (rcF (A 7) (S 4) (k + 1)) from (by first | (simp only [rcF, c12_2, c26_3, ↓reduceIte, Bool.false_eq_true, reduceCtorEq]; done) | simp [rcF, c12_2, c26_3])] at hl
      exact ih7 (k + 1) (by omega) _ _ hI hS ls (lv_sub hl [0, 1, 2] rfl)

set_option maxHeartbeats 4000000 in
set_option maxRecDepth 100000 in
theorem c_X0_newestOf (l : Launch) (D : va_G) (cy : Nat → ClassId) (h0 : Nat) (q : Nat → Nat) (A : Nat → Nat → Int32) (S : Nat → Int32) (name : Int32) (x : Int32) (nb : Nat) (hnb : nb ≤ 24) (hcb : S 5 = nI nb) : Met l yX0_newestOf wsX0_newestOf (rmO 3 41) (va_Pc [.ref (q 2), .int name, .int x] (pI D cy h0 (wX cy q A S))) (roI (nwF (A 5) name x nb)) 0 0 nof := by
  refine Met.ofW (cc := cX0_newestOf) (maxL := 5) (ret := (some .int)) (by decide) rfl ?_
  intro p e s m args below meth c s₁ B hml hv
  obtain ⟨rfl, hI⟩ := hv
  have hx := B.exec
  have hb := B.bytes
  have hr := B.returns
  have hts := atoms_spec (ws := wsX0_newestOf) B.pre
  have hown : s.vm.findClass RX0 = some m.cls := findClass_of_methodNamed B.named
  have hlk := B.notSynchronized
  have hI : IH D cy h0 (wX cy q A S) s s.heap := hI
  have hG := hI.1
  have hS : va_S nof s.heap s.heap [] := va_S.rf
  have hi0 : ∀ w ∈ wsX00, w ∈ wsX0_newestOf := by decide +kernel
  have hl := lv_entry ([.ref (q 2), .int name, .int x]) (n := 5) (Nat.le_of_ble_eq_true rfl)
  rw [lg_entry_eq]
  generalize (lg_sl ([.ref (q 2), .int name, .int x]) ++ List.replicate (5 - (lg_sl ([.ref (q 2), .int name, .int x])).length) Slot.unset).toArray = ls at hl ⊢
  have hl : lv_has ls 5 [(0, .ref (q 2)), (1, .int name), (2, .int x)] := hl
  refine lv_iconst (v := (-1)) hx hb dX0_newestOf_0 (by decide) ?_
  refine lv_istore_n (lv' := [(3, .int (-1)), (0, .ref (q 2)), (1, .int name), (2, .int x)]) hx hb dX0_newestOf_1 rfl hl (by decide) rfl (fun ls hl => ?_)
  refine lv_iconst (v := 0) hx hb dX0_newestOf_2 (by decide) ?_
  refine lv_istore (lv' := [(4, .int 0), (3, .int (-1)), (0, .ref (q 2)), (1, .int name), (2, .int x)]) hx hb dX0_newestOf_3 hl (by decide) rfl (fun ls hl => ?_)
  suffices KL5 : ∀ (n9 k : Nat), k + n9 = nb → ∀ (H : Heap) (locs : List Loc), IH D cy h0 (wX cy q A S) s H → va_S (nof) s.heap H locs → ∀ ls : Array Slot, lv_has ls 5 [(4, .int (nI k)), (3, .int (nwF (A 5) name x k)), (0, .ref (q 2)), (1, .int name), (2, .int x)] → W p l e (headSpec wsX0_newestOf (rmO 3 41)).room s m ([.ref (q 2), .int name, .int x]).toArray below meth c H locs 0 0 (MQ below (roI (nwF (A 5) name x nb)) ([.ref (q 2), .int name, .int x]).toArray s 0 0 nof) (F0 m 5 ls []) by
    exact KL5 nb 0 (by omega) _ _ hI hS ls ((lv_sub hl [0, 1, 2, 3, 4] rfl))
  intro n9
  induction n9 with
  | zero =>
    intro k hk H locs hI hS ls hl
    have hk : nb = k := by omega
    subst hk
    refine lv_iload hx hb dX0_newestOf_5 (lv_at hl 0 rfl) ?_
    refine lv_aload_n hx hb dX0_newestOf_7 rfl (lv_at hl 2 rfl) ?_
    refine r_get (C := RX0) (T := TX0) (N := 10) (k := 9) (q0 := 2) (v := .int (S 5)) hx hb hts hi0 hown hI rfl rfl (by decide) (hts (.fieldLink RX0 36 "Buildlots$Builds" "count" "I") (List.mem_of_getElem? (i := 1) rfl)) rfl rfl dX0_newestOf_8 ?_
    refine lv_icmp_ge (tgt := 43) hx hb dX0_newestOf_11 (by decide) (fun c11_1 => ?_) (fun c11_1 => ?_)
    rotate_left
    · exact absurd (i_ge rfl hcb (Nat.le_refl _) (by omega)) c11_1
    refine lv_iload_n hx hb dX0_newestOf_43 rfl (lv_at hl 1 rfl) ?_
    exact end_roi hx hb hr rfl hS dX0_newestOf_44 hlk
  | succ n9 ih5 =>
    intro k hk H locs hI hS ls hl
    have hk5 : k < nb := by omega
    refine lv_iload hx hb dX0_newestOf_5 (lv_at hl 0 rfl) ?_
    refine lv_aload_n hx hb dX0_newestOf_7 rfl (lv_at hl 2 rfl) ?_
    refine r_get (C := RX0) (T := TX0) (N := 10) (k := 9) (q0 := 2) (v := .int (S 5)) hx hb hts hi0 hown hI rfl rfl (by decide) (hts (.fieldLink RX0 36 "Buildlots$Builds" "count" "I") (List.mem_of_getElem? (i := 1) rfl)) rfl rfl dX0_newestOf_8 ?_
    refine lv_icmp_ge (tgt := 43) hx hb dX0_newestOf_11 (by decide) (fun c11_2 => ?_) (fun c11_2 => ?_)
    · exact absurd c11_2 (i_nge rfl hcb (by omega) (by omega))
    refine lv_aload_n hx hb dX0_newestOf_14 rfl (lv_at hl 2 rfl) ?_
    refine r_get (C := RX0) (T := TX0) (N := 10) (k := 0) (q0 := 2) (v := .ref (q 9)) hx hb hts hi0 hown hI rfl rfl (by decide) (hts (.fieldLink RX0 9 "Buildlots$Builds" "names" "[I") (List.mem_of_getElem? (i := 2) rfl)) rfl rfl dX0_newestOf_15 ?_
    refine lv_iload hx hb dX0_newestOf_18 (lv_at hl 0 rfl) ?_
    refine r_iald (q0 := 9) (j := k) (n := 24) (f := (A 5)) hx hb hI rfl rfl (by omega) (by decide) dX0_newestOf_20 ?_
    refine lv_iload_n hx hb dX0_newestOf_21 rfl (lv_at hl 3 rfl) ?_
    refine lv_icmp_ne (tgt := 37) hx hb dX0_newestOf_22 (by decide) (fun c22_3 => ?_) (fun c22_3 => ?_)
    · refine lv_iinc (v := nI (k + 1)) (lv' := [(4, .int (nI (k + 1))), (3, .int (nwF (A 5) name x k)), (0, .ref (q 2)), (1, .int name), (2, .int x)]) hx hb dX0_newestOf_37 hl (k := 0) rfl (nI_1 k) (by decide) rfl (fun ls hl => ?_)
      refine lv_goto (tgt := 5) hx hb dX0_newestOf_40 (by decide) ?_
      rw [show (nwF (A 5) name x k) = (nwF (A 5) name x (k + 1)) from (by first | (simp only [nwF, c11_2, c22_3, ↓reduceIte, Bool.false_eq_true, reduceCtorEq]; done) | simp [nwF, c11_2, c22_3])] at hl
      exact ih5 (k + 1) (by omega) _ _ hI hS ls (lv_sub hl [0, 1, 2, 3, 4] rfl)
    · refine lv_iload_n hx hb dX0_newestOf_25 rfl (lv_at hl 4 rfl) ?_
      refine lv_iload hx hb dX0_newestOf_26 (lv_at hl 0 rfl) ?_
      refine ro_i (va_runSN (As := [.int x, .int (nI k)]) (rest := []) ⟨hx, hb, hml, hown, hts⟩ (c_X3_holds l x (nI k)) ⟨va_cnB (host := RX3) 2 hts gX0_newestOf_X3_holds_n47 rfl rfl rfl (hG.1.2.1 (RX0, 47, yX3_holds) (List.mem_of_getElem? (i := 14) rfl)) (hts (.initialized RX3) (List.mem_of_getElem? (i := 4) rfl)) (by decide +kernel) ⟨Nat.le_of_ble_eq_true rfl, Nat.le_of_ble_eq_true rfl⟩, (hts (.static yX3_holds) (List.mem_of_getElem? (i := 3) rfl)), trivial⟩ preT rfl rfl hl.1 rfl (lv_room (Nat.le_of_ble_eq_true rfl)) dX0_newestOf_28 ⟨Nat.le_of_ble_eq_true rfl, Nat.le_of_ble_eq_true rfl⟩) hI hS (fun H locs hI hS => ?_)
      refine r_ifeq_b (tgt := 37) hx hb dX0_newestOf_31 (by decide) (fun c31_4 => ?_) (fun c31_4 => ?_)
      · refine lv_iinc (v := nI (k + 1)) (lv' := [(4, .int (nI (k + 1))), (3, .int (nwF (A 5) name x k)), (0, .ref (q 2)), (1, .int name), (2, .int x)]) hx hb dX0_newestOf_37 hl (k := 0) rfl (nI_1 k) (by decide) rfl (fun ls hl => ?_)
        refine lv_goto (tgt := 5) hx hb dX0_newestOf_40 (by decide) ?_
        rw [show (nwF (A 5) name x k) = (nwF (A 5) name x (k + 1)) from (by first | (simp only [nwF, c11_2, c22_3, c31_4, ↓reduceIte, Bool.false_eq_true, reduceCtorEq]; done) | simp [nwF, c11_2, c22_3, c31_4])] at hl
        exact ih5 (k + 1) (by omega) _ _ hI hS ls (lv_sub hl [0, 1, 2, 3, 4] rfl)
      · refine lv_iload hx hb dX0_newestOf_34 (lv_at hl 0 rfl) ?_
        refine lv_istore_n (lv' := [(3, .int (nI k)), (4, .int (nI k)), (0, .ref (q 2)), (1, .int name), (2, .int x)]) hx hb dX0_newestOf_36 rfl hl (by decide) rfl (fun ls hl => ?_)
        refine lv_iinc (v := nI (k + 1)) (lv' := [(4, .int (nI (k + 1))), (3, .int (nI k)), (0, .ref (q 2)), (1, .int name), (2, .int x)]) hx hb dX0_newestOf_37 hl (k := 1) rfl (nI_1 k) (by decide) rfl (fun ls hl => ?_)
        refine lv_goto (tgt := 5) hx hb dX0_newestOf_40 (by decide) ?_
        rw [show (nI k) = (nwF (A 5) name x (k + 1)) from (by first | (simp only [nwF, c11_2, c22_3, c31_4, ↓reduceIte, Bool.false_eq_true, reduceCtorEq]; done) | simp [nwF, c11_2, c22_3, c31_4])] at hl
        exact ih5 (k + 1) (by omega) _ _ hI hS ls (lv_sub hl [0, 1, 2, 3, 4] rfl)

set_option maxHeartbeats 4000000 in
set_option maxRecDepth 100000 in
theorem c_X0_append (l : Launch) (D : va_G) (cy : Nat → ClassId) (h0 : Nat) (q : Nat → Nat) (A : Nat → Nat → Int32) (S : Nat → Int32) (name : Int32) (x : Int32) (res : Int32) (nb : Nat) (hnb : nb ≤ 24) (hcb : S 5 = nI nb) (hlt : nb < 24) : Met l yX0_append wsX0_append (rmO 4 64) (va_Pc [.ref (q 2), .int name, .int x, .int res] (pI D cy h0 (wX cy q A S))) (rwI (S 5) D cy h0 (wX cy q (uA (uA (uA (uA A 5 (upd (A 5) nb name)) 6 (upd (A 6) nb (1 + cF (upd (A 5) nb name) name nb))) 7 (upd (A 7) nb (wtF (A 7) x nb))) 8 (upd (A 8) nb res)) (uS S 5 (S 5 + 1))) (qA 19 q)) 0 0 (qA 19 q) := by
  refine Met.ofW (cc := cX0_append) (maxL := 5) (ret := (some .int)) (by decide) rfl ?_
  intro p e s m args below meth c s₁ B hml hv
  obtain ⟨rfl, hI⟩ := hv
  have hx := B.exec
  have hb := B.bytes
  have hr := B.returns
  have hts := atoms_spec (ws := wsX0_append) B.pre
  have hown : s.vm.findClass RX0 = some m.cls := findClass_of_methodNamed B.named
  have hlk := B.notSynchronized
  have hI : IH D cy h0 (wX cy q A S) s s.heap := hI
  have hG := hI.1
  have hqA := hA_X hI
  have hh0 : h0 ≤ s.heap.size := hI.1.2.2.2
  have hS : va_S nof s.heap s.heap [] := va_S.rf
  have hi0 : ∀ w ∈ wsX00, w ∈ wsX0_append := by decide +kernel
  have hl := lv_entry ([.ref (q 2), .int name, .int x, .int res]) (n := 5) (Nat.le_of_ble_eq_true rfl)
  rw [lg_entry_eq]
  generalize (lg_sl ([.ref (q 2), .int name, .int x, .int res]) ++ List.replicate (5 - (lg_sl ([.ref (q 2), .int name, .int x, .int res])).length) Slot.unset).toArray = ls at hl ⊢
  have hl : lv_has ls 5 [(0, .ref (q 2)), (1, .int name), (2, .int x), (3, .int res)] := hl
  refine lv_aload_n hx hb dX0_append_0 rfl (lv_at hl 0 rfl) ?_
  refine r_get (C := RX0) (T := TX0) (N := 10) (k := 9) (q0 := 2) (v := .int (S 5)) hx hb hts hi0 hown hI rfl rfl (by decide) (hts (.fieldLink RX0 36 "Buildlots$Builds" "count" "I") (List.mem_of_getElem? (i := 1) rfl)) rfl rfl dX0_append_1 ?_
  refine lv_istore (lv' := [(4, .int (S 5)), (0, .ref (q 2)), (1, .int name), (2, .int x), (3, .int res)]) hx hb dX0_append_4 hl (by decide) rfl (fun ls hl => ?_)
  refine lv_aload_n hx hb dX0_append_6 rfl (lv_at hl 1 rfl) ?_
  refine r_get (C := RX0) (T := TX0) (N := 10) (k := 0) (q0 := 2) (v := .ref (q 9)) hx hb hts hi0 hown hI rfl rfl (by decide) (hts (.fieldLink RX0 9 "Buildlots$Builds" "names" "[I") (List.mem_of_getElem? (i := 2) rfl)) rfl rfl dX0_append_7 ?_
  refine lv_iload hx hb dX0_append_10 (lv_at hl 0 rfl) ?_
  refine lv_iload_n hx hb dX0_append_12 rfl (lv_at hl 2 rfl) ?_
  have hS := hS.mono (B := qA 19 q) (fun _ h => h.elim)
  refine r_iast (w' := wX cy q (uA A 5 (upd (A 5) nb name)) S) (q0 := 9) (j := nb) (n := 24) (f := (A 5)) hx hb hI hS hqA hh0 (qA_X hI) rfl hcb (by omega) (by decide) dX0_append_13 rfl (fun H locs hI hS => ?_)
  refine lv_aload_n hx hb dX0_append_14 rfl (lv_at hl 1 rfl) ?_
  refine r_get (C := RX0) (T := TX0) (N := 10) (k := 1) (q0 := 2) (v := .ref (q 10)) hx hb hts hi0 hown hI rfl rfl (by decide) (hts (.fieldLink RX0 15 "Buildlots$Builds" "versions" "[I") (List.mem_of_getElem? (i := 3) rfl)) rfl rfl dX0_append_15 ?_
  refine lv_iload hx hb dX0_append_18 (lv_at hl 0 rfl) ?_
  refine lv_iconst (v := 1) hx hb dX0_append_20 (by decide) ?_
  refine lv_aload_n hx hb dX0_append_21 rfl (lv_at hl 1 rfl) ?_
  refine lv_iload_n hx hb dX0_append_22 rfl (lv_at hl 2 rfl) ?_
  refine ro_i (va_runV (As := [.int name]) (rest := [.int 1, .int (S 5), .ref (q 10)]) ⟨hx, hb, hml, hown, hts⟩ (c_X0_countOf l D cy h0 q (uA A 5 (upd (A 5) nb name)) S name nb hnb hcb) (cwV 1 hts gX0_append_X0_countOf rfl rfl rfl (by decide +kernel) ⟨Nat.le_of_ble_eq_true rfl, Nat.le_of_ble_eq_true rfl⟩) (hI.preV (k0 := 2) rfl rfl) rfl rfl hl.1 rfl (lv_room (Nat.le_of_ble_eq_true rfl)) dX0_append_23 ⟨Nat.le_of_ble_eq_true rfl, Nat.le_of_ble_eq_true rfl⟩) hI hS (fun H locs hI hS => ?_)
  refine lv_iadd hx hb dX0_append_26 ?_
  refine r_iast (w' := wX cy q (uA (uA A 5 (upd (A 5) nb name)) 6 (upd (A 6) nb (1 + (cF ((uA A 5 (upd (A 5) nb name)) 5) name nb)))) S) (q0 := 10) (j := nb) (n := 24) (f := (A 6)) hx hb hI hS hqA hh0 (qA_X hI) rfl hcb (by omega) (by decide) dX0_append_27 rfl (fun H locs hI hS => ?_)
  refine lv_aload_n hx hb dX0_append_28 rfl (lv_at hl 1 rfl) ?_
  refine r_get (C := RX0) (T := TX0) (N := 10) (k := 2) (q0 := 2) (v := .ref (q 11)) hx hb hts hi0 hown hI rfl rfl (by decide) (hts (.fieldLink RX0 18 "Buildlots$Builds" "sources" "[I") (List.mem_of_getElem? (i := 4) rfl)) rfl rfl dX0_append_29 ?_
  refine lv_iload hx hb dX0_append_32 (lv_at hl 0 rfl) ?_
  refine lv_aload_n hx hb dX0_append_34 rfl (lv_at hl 1 rfl) ?_
  refine lv_iload_n hx hb dX0_append_35 rfl (lv_at hl 3 rfl) ?_
  refine ro_i (va_runV (As := [.int x]) (rest := [.int (S 5), .ref (q 11)]) ⟨hx, hb, hml, hown, hts⟩ (c_X0_withTheirSources l D cy h0 q (uA (uA A 5 (upd (A 5) nb name)) 6 (upd (A 6) nb (1 + (cF ((uA A 5 (upd (A 5) nb name)) 5) name nb)))) S x nb hnb hcb) (cwV 1 hts gX0_append_X0_withTheirSources rfl rfl rfl (by decide +kernel) ⟨Nat.le_of_ble_eq_true rfl, Nat.le_of_ble_eq_true rfl⟩) (hI.preV (k0 := 2) rfl rfl) rfl rfl hl.1 rfl (lv_room (Nat.le_of_ble_eq_true rfl)) dX0_append_36 ⟨Nat.le_of_ble_eq_true rfl, Nat.le_of_ble_eq_true rfl⟩) hI hS (fun H locs hI hS => ?_)
  refine r_iast (w' := wX cy q (uA (uA (uA A 5 (upd (A 5) nb name)) 6 (upd (A 6) nb (1 + (cF ((uA A 5 (upd (A 5) nb name)) 5) name nb)))) 7 (upd (A 7) nb (wtF ((uA (uA A 5 (upd (A 5) nb name)) 6 (upd (A 6) nb (1 + (cF ((uA A 5 (upd (A 5) nb name)) 5) name nb)))) 7) x nb))) S) (q0 := 11) (j := nb) (n := 24) (f := (A 7)) hx hb hI hS hqA hh0 (qA_X hI) rfl hcb (by omega) (by decide) dX0_append_39 rfl (fun H locs hI hS => ?_)
  refine lv_aload_n hx hb dX0_append_40 rfl (lv_at hl 1 rfl) ?_
  refine r_get (C := RX0) (T := TX0) (N := 10) (k := 3) (q0 := 2) (v := .ref (q 12)) hx hb hts hi0 hown hI rfl rfl (by decide) (hts (.fieldLink RX0 21 "Buildlots$Builds" "results" "[I") (List.mem_of_getElem? (i := 5) rfl)) rfl rfl dX0_append_41 ?_
  refine lv_iload hx hb dX0_append_44 (lv_at hl 0 rfl) ?_
  refine lv_iload_n hx hb dX0_append_46 rfl (lv_at hl 4 rfl) ?_
  refine r_iast (w' := wX cy q (uA (uA (uA (uA A 5 (upd (A 5) nb name)) 6 (upd (A 6) nb (1 + (cF ((uA A 5 (upd (A 5) nb name)) 5) name nb)))) 7 (upd (A 7) nb (wtF ((uA (uA A 5 (upd (A 5) nb name)) 6 (upd (A 6) nb (1 + (cF ((uA A 5 (upd (A 5) nb name)) 5) name nb)))) 7) x nb))) 8 (upd (A 8) nb res)) S) (q0 := 12) (j := nb) (n := 24) (f := (A 8)) hx hb hI hS hqA hh0 (qA_X hI) rfl hcb (by omega) (by decide) dX0_append_47 rfl (fun H locs hI hS => ?_)
  refine lv_aload_n hx hb dX0_append_48 rfl (lv_at hl 1 rfl) ?_
  refine lv_dup hx hb dX0_append_49 rfl ?_
  refine r_get (C := RX0) (T := TX0) (N := 10) (k := 9) (q0 := 2) (v := .int (S 5)) hx hb hts hi0 hown hI rfl rfl (by decide) (hts (.fieldLink RX0 36 "Buildlots$Builds" "count" "I") (List.mem_of_getElem? (i := 1) rfl)) rfl rfl dX0_append_50 ?_
  refine lv_iconst (v := 1) hx hb dX0_append_53 (by decide) ?_
  refine lv_iadd hx hb dX0_append_54 ?_
  refine r_put (w' := wX cy q (uA (uA (uA (uA A 5 (upd (A 5) nb name)) 6 (upd (A 6) nb (1 + (cF ((uA A 5 (upd (A 5) nb name)) 5) name nb)))) 7 (upd (A 7) nb (wtF ((uA (uA A 5 (upd (A 5) nb name)) 6 (upd (A 6) nb (1 + (cF ((uA A 5 (upd (A 5) nb name)) 5) name nb)))) 7) x nb))) 8 (upd (A 8) nb res)) (uS S 5 ((S 5) + 1))) (C := RX0) (T := TX0) (N := 10) (k := 9) (q0 := 2) (ty := .int) (v := .int ((S 5) + 1)) hx hb hts hi0 tyX0_ok nmX0 hown hI hS hqA hh0 (qA_X hI) rfl rfl (by decide) (hts (.fieldLink RX0 36 "Buildlots$Builds" "count" "I") (List.mem_of_getElem? (i := 1) rfl)) rfl rfl (by decide +kernel) rfl rfl (Nat.le_of_ble_eq_true rfl) dX0_append_55 rfl (fun H locs hI hS => ?_)
  refine lv_iload hx hb dX0_append_58 (lv_at hl 0 rfl) ?_
  rw [show wX cy q (uA (uA (uA (uA A 5 (upd (A 5) nb name)) 6 (upd (A 6) nb (1 + (cF ((uA A 5 (upd (A 5) nb name)) 5) name nb)))) 7 (upd (A 7) nb (wtF ((uA (uA A 5 (upd (A 5) nb name)) 6 (upd (A 6) nb (1 + (cF ((uA A 5 (upd (A 5) nb name)) 5) name nb)))) 7) x nb))) 8 (upd (A 8) nb res)) (uS S 5 ((S 5) + 1)) = wX cy q (uA (uA (uA (uA A 5 (upd (A 5) nb name)) 6 (upd (A 6) nb (1 + cF (upd (A 5) nb name) name nb))) 7 (upd (A 7) nb (wtF (A 7) x nb))) 8 (upd (A 8) nb res)) (uS S 5 (S 5 + 1)) from rfl] at hI
  exact end_rwi hx hb hr rfl hI hS dX0_append_60 hlk

set_option maxHeartbeats 4000000 in
set_option maxRecDepth 100000 in
theorem c_X0_keepVouchers (l : Launch) (D : va_G) (cy : Nat → ClassId) (h0 : Nat) (q : Nat → Nat) (A : Nat → Nat → Int32) (S : Nat → Int32) (day : Int32) (nk : Nat) (hnk : nk ≤ 8) (hck : S 3 = nI nk) (nb : Nat) (hnb : nb ≤ 24) (hcb : S 5 = nI nb) : Met l yX0_keepVouchers wsX0_keepVouchers (rmO 5 86) (va_Pc [.ref (q 2), .ref (q 1), .int day] (pI D cy h0 (wX cy q A S))) (rwV D cy h0 (wX cy q (uA A 10 (kvF A S day nk nb)) S) (qA 19 q)) 0 0 (qA 19 q) := by
  refine Met.ofW (cc := cX0_keepVouchers) (maxL := 5) (ret := none) (by decide) rfl ?_
  intro p e s m args below meth c s₁ B hml hv
  obtain ⟨rfl, hI⟩ := hv
  have hx := B.exec
  have hb := B.bytes
  have hr := B.returns
  have hts := atoms_spec (ws := wsX0_keepVouchers) B.pre
  have hown : s.vm.findClass RX0 = some m.cls := findClass_of_methodNamed B.named
  have hlk := B.notSynchronized
  have hI : IH D cy h0 (wX cy q A S) s s.heap := hI
  have hG := hI.1
  have hqA := hA_X hI
  have hh0 : h0 ≤ s.heap.size := hI.1.2.2.2
  have hS : va_S nof s.heap s.heap [] := va_S.rf
  have hi0 : ∀ w ∈ wsX00, w ∈ wsX0_keepVouchers := by decide +kernel
  have hi1 : ∀ w ∈ wsX10, w ∈ wsX0_keepVouchers := by decide +kernel
  have hl := lv_entry ([.ref (q 2), .ref (q 1), .int day]) (n := 5) (Nat.le_of_ble_eq_true rfl)
  rw [lg_entry_eq]
  generalize (lg_sl ([.ref (q 2), .ref (q 1), .int day]) ++ List.replicate (5 - (lg_sl ([.ref (q 2), .ref (q 1), .int day])).length) Slot.unset).toArray = ls at hl ⊢
  have hl : lv_has ls 5 [(0, .ref (q 2)), (1, .ref (q 1)), (2, .int day)] := hl
  refine lv_aload_n hx hb dX0_keepVouchers_0 rfl (lv_at hl 1 rfl) ?_
  refine lv_iload_n hx hb dX0_keepVouchers_1 rfl (lv_at hl 2 rfl) ?_
  refine ro_i (va_runVN (As := [.int day]) (rest := []) ⟨hx, hb, hml, hown, hts⟩ (c_X1_live l D cy h0 q A S day nk hnk hck) ⟨va_cnB (host := RX3) 1 hts gX0_keepVouchers_X1_live_n57 rfl rfl rfl (hG.1.2.1 (RX0, 57, yX1_live) (List.mem_of_getElem? (i := 5) rfl)) (hts (.initialized RX1) (List.mem_of_getElem? (i := 5) rfl)) (by decide +kernel) ⟨Nat.le_of_ble_eq_true rfl, Nat.le_of_ble_eq_true rfl⟩, (hts (.instanceMethod yX1_live) (List.mem_of_getElem? (i := 4) rfl)), (hts (.selects RX1 yX1_live yX1_live) (List.mem_of_getElem? (i := 6) rfl))⟩ (hI.preV (k0 := 1) rfl rfl) rfl rfl hl.1 rfl (lv_room (Nat.le_of_ble_eq_true rfl)) dX0_keepVouchers_2 ⟨Nat.le_of_ble_eq_true rfl, Nat.le_of_ble_eq_true rfl⟩) hI hS (fun H locs hI hS => ?_)
  refine lv_istore_n (lv' := [(3, .int (liveF A S day nk)), (0, .ref (q 2)), (1, .ref (q 1)), (2, .int day)]) hx hb dX0_keepVouchers_5 rfl hl (by decide) rfl (fun ls hl => ?_)
  refine lv_iconst (v := 0) hx hb dX0_keepVouchers_6 (by decide) ?_
  refine lv_istore (lv' := [(4, .int 0), (3, .int (liveF A S day nk)), (0, .ref (q 2)), (1, .ref (q 1)), (2, .int day)]) hx hb dX0_keepVouchers_7 hl (by decide) rfl (fun ls hl => ?_)
  have hS := hS.mono (B := qA 19 q) (fun _ h => h.elim)
  suffices KL9 : ∀ (n9 k : Nat), k + n9 = nb → ∀ (H : Heap) (locs : List Loc), IH D cy h0 (wX cy q (uA A 10 (kvF A S day nk k)) S) s H → va_S (qA 19 q) s.heap H locs → ∀ ls : Array Slot, lv_has ls 5 [(4, .int (nI k)), (3, .int (liveF A S day nk)), (0, .ref (q 2)), (1, .ref (q 1)), (2, .int day)] → W p l e (headSpec wsX0_keepVouchers (rmO 5 86)).room s m ([.ref (q 2), .ref (q 1), .int day]).toArray below meth c H locs 0 0 (MQ below (rwV D cy h0 (wX cy q (uA A 10 (kvF A S day nk nb)) S) (qA 19 q)) ([.ref (q 2), .ref (q 1), .int day]).toArray s 0 0 (qA 19 q)) (F0 m 9 ls []) by
    rw [← kv_0 A S day nk] at hI
    exact KL9 nb 0 (by omega) _ _ hI hS ls ((lv_sub hl [0, 1, 2, 3, 4] rfl))
  intro n9
  induction n9 with
  | zero =>
    intro k hk H locs hI hS ls hl
    have hk : nb = k := by omega
    subst hk
    refine lv_iload hx hb dX0_keepVouchers_9 (lv_at hl 0 rfl) ?_
    refine lv_aload_n hx hb dX0_keepVouchers_11 rfl (lv_at hl 2 rfl) ?_
    refine r_get (C := RX0) (T := TX0) (N := 10) (k := 9) (q0 := 2) (v := .int (S 5)) hx hb hts hi0 hown hI rfl rfl (by decide) (hts (.fieldLink RX0 36 "Buildlots$Builds" "count" "I") (List.mem_of_getElem? (i := 1) rfl)) rfl rfl dX0_keepVouchers_12 ?_
    refine lv_icmp_ge (tgt := 44) hx hb dX0_keepVouchers_15 (by decide) (fun c15_1 => ?_) (fun c15_1 => ?_)
    rotate_left
    · exact absurd (i_ge rfl hcb (Nat.le_refl _) (by omega)) c15_1
    exact end_rwv hx hb hr hI hS dX0_keepVouchers_44 hlk
  | succ n9 ih9 =>
    intro k hk H locs hI hS ls hl
    have hk9 : k < nb := by omega
    refine lv_iload hx hb dX0_keepVouchers_9 (lv_at hl 0 rfl) ?_
    refine lv_aload_n hx hb dX0_keepVouchers_11 rfl (lv_at hl 2 rfl) ?_
    refine r_get (C := RX0) (T := TX0) (N := 10) (k := 9) (q0 := 2) (v := .int (S 5)) hx hb hts hi0 hown hI rfl rfl (by decide) (hts (.fieldLink RX0 36 "Buildlots$Builds" "count" "I") (List.mem_of_getElem? (i := 1) rfl)) rfl rfl dX0_keepVouchers_12 ?_
    refine lv_icmp_ge (tgt := 44) hx hb dX0_keepVouchers_15 (by decide) (fun c15_2 => ?_) (fun c15_2 => ?_)
    · exact absurd c15_2 (i_nge rfl hcb (by omega) (by omega))
    refine lv_aload_n hx hb dX0_keepVouchers_18 rfl (lv_at hl 2 rfl) ?_
    refine r_get (C := RX0) (T := TX0) (N := 10) (k := 5) (q0 := 2) (v := .ref (q 14)) hx hb hts hi0 hown hI rfl rfl (by decide) (hts (.fieldLink RX0 27 "Buildlots$Builds" "vouchers" "[I") (List.mem_of_getElem? (i := 2) rfl)) rfl rfl dX0_keepVouchers_19 ?_
    refine lv_iload hx hb dX0_keepVouchers_22 (lv_at hl 0 rfl) ?_
    refine lv_aload_n hx hb dX0_keepVouchers_24 rfl (lv_at hl 3 rfl) ?_
    refine lv_aload_n hx hb dX0_keepVouchers_25 rfl (lv_at hl 2 rfl) ?_
    refine r_get (C := RX0) (T := TX0) (N := 10) (k := 4) (q0 := 2) (v := .ref (q 13)) hx hb hts hi0 hown hI rfl rfl (by decide) (hts (.fieldLink RX0 24 "Buildlots$Builds" "attesters" "[I") (List.mem_of_getElem? (i := 3) rfl)) rfl rfl dX0_keepVouchers_26 ?_
    refine lv_iload hx hb dX0_keepVouchers_29 (lv_at hl 0 rfl) ?_
    refine r_iald (q0 := 13) (j := k) (n := 24) (f := (A 9)) hx hb hI rfl rfl (by omega) (by decide) dX0_keepVouchers_31 ?_
    refine lv_iload_n hx hb dX0_keepVouchers_32 rfl (lv_at hl 1 rfl) ?_
    refine lv_iand hx hb dX0_keepVouchers_33 ?_
    refine ro_i (va_runVN (As := [.int ((A 9 k) &&& (liveF A S day nk))]) (rest := [.int (nI k), .ref (q 14)]) ⟨hx, hb, hml, hown, hts⟩ (c_X1_signersOf l D cy h0 q (uA A 10 (kvF A S day nk k)) S ((A 9 k) &&& (liveF A S day nk)) nk hnk hck) ⟨va_cnB (host := RX3) 1 hts gX0_keepVouchers_X1_signersOf_n62 rfl rfl rfl (hG.1.2.1 (RX0, 62, yX1_signersOf) (List.mem_of_getElem? (i := 8) rfl)) (hts (.initialized RX1) (List.mem_of_getElem? (i := 5) rfl)) (by decide +kernel) ⟨Nat.le_of_ble_eq_true rfl, Nat.le_of_ble_eq_true rfl⟩, (hts (.instanceMethod yX1_signersOf) (List.mem_of_getElem? (i := 22) rfl)), (hts (.selects RX1 yX1_signersOf yX1_signersOf) (List.mem_of_getElem? (i := 23) rfl))⟩ (hI.preV (k0 := 1) rfl rfl) rfl rfl hl.1 rfl (lv_room (Nat.le_of_ble_eq_true rfl)) dX0_keepVouchers_34 ⟨Nat.le_of_ble_eq_true rfl, Nat.le_of_ble_eq_true rfl⟩) hI hS (fun H locs hI hS => ?_)
    refine r_iast (w' := wX cy q (uA (uA A 10 (kvF A S day nk k)) 10 (upd (kvF A S day nk k) k (sgF ((uA A 10 (kvF A S day nk k)) 2) ((A 9 k) &&& (liveF A S day nk)) nk))) S) (q0 := 14) (j := k) (n := 24) (f := (kvF A S day nk k)) hx hb hI hS hqA hh0 (qA_X hI) rfl rfl (by omega) (by decide) dX0_keepVouchers_37 rfl (fun H locs hI hS => ?_)
    rw [show wX cy q (uA (uA A 10 (kvF A S day nk k)) 10 (upd (kvF A S day nk k) k (sgF ((uA A 10 (kvF A S day nk k)) 2) ((A 9 k) &&& (liveF A S day nk)) nk))) S = wX cy q (uA A 10 (kvF A S day nk (k + 1))) S from (wX_A ((uA_uA _ _ _ _).trans (congrArg _ (kv_step A S day nk k))) rfl)] at hI
    refine lv_iinc (v := nI (k + 1)) (lv' := [(4, .int (nI (k + 1))), (3, .int (liveF A S day nk)), (0, .ref (q 2)), (1, .ref (q 1)), (2, .int day)]) hx hb dX0_keepVouchers_38 hl (k := 0) rfl (nI_1 k) (by decide) rfl (fun ls hl => ?_)
    refine lv_goto (tgt := 9) hx hb dX0_keepVouchers_41 (by decide) ?_
    exact ih9 (k + 1) (by omega) _ _ hI hS ls (lv_sub hl [0, 1, 2, 3, 4] rfl)

set_option maxHeartbeats 4000000 in
set_option maxRecDepth 100000 in
theorem c_X2_append (l : Launch) (D : va_G) (cy : Nat → ClassId) (h0 : Nat) (q : Nat → Nat) (A : Nat → Nat → Int32) (S : Nat → Int32) (nm : Nat) (hnm : nm ≤ 3) (hcm : S 6 = nI nm) (hlt : nm < 3) : Met l yX2_append wsX2_append (rmO 1 0) (va_Pc [.ref (q 3)] (pI D cy h0 (wX cy q A S))) (rwI (S 6) D cy h0 (wX cy q (uA (uA A 13 (upd (A 13) nm (-1))) 14 (upd (A 14) nm 0)) (uS S 6 (S 6 + 1))) (qA 19 q)) 0 0 (qA 19 q) := by
  refine Met.ofW (cc := cX2_append) (maxL := 2) (ret := (some .int)) (by decide) rfl ?_
  intro p e s m args below meth c s₁ B hml hv
  obtain ⟨rfl, hI⟩ := hv
  have hx := B.exec
  have hb := B.bytes
  have hr := B.returns
  have hts := atoms_spec (ws := wsX2_append) B.pre
  have hown : s.vm.findClass RX2 = some m.cls := findClass_of_methodNamed B.named
  have hlk := B.notSynchronized
  have hI : IH D cy h0 (wX cy q A S) s s.heap := hI
  have hG := hI.1
  have hqA := hA_X hI
  have hh0 : h0 ≤ s.heap.size := hI.1.2.2.2
  have hS : va_S nof s.heap s.heap [] := va_S.rf
  have hi2 : ∀ w ∈ wsX20, w ∈ wsX2_append := by decide +kernel
  have hl := lv_entry ([.ref (q 3)]) (n := 2) (Nat.le_of_ble_eq_true rfl)
  rw [lg_entry_eq]
  generalize (lg_sl ([.ref (q 3)]) ++ List.replicate (2 - (lg_sl ([.ref (q 3)])).length) Slot.unset).toArray = ls at hl ⊢
  have hl : lv_has ls 2 [(0, .ref (q 3))] := hl
  refine lv_aload_n hx hb dX2_append_0 rfl (lv_at hl 0 rfl) ?_
  refine r_get (C := RX2) (T := TX2) (N := 3) (k := 2) (q0 := 3) (v := .int (S 6)) hx hb hts hi2 hown hI rfl rfl (by decide) (hts (.fieldLink RX2 18 "Buildlots$Mirrors" "count" "I") (List.mem_of_getElem? (i := 1) rfl)) rfl rfl dX2_append_1 ?_
  refine lv_istore_n (lv' := [(1, .int (S 6)), (0, .ref (q 3))]) hx hb dX2_append_4 rfl hl (by decide) rfl (fun ls hl => ?_)
  refine lv_aload_n hx hb dX2_append_5 rfl (lv_at hl 1 rfl) ?_
  refine r_get (C := RX2) (T := TX2) (N := 3) (k := 0) (q0 := 3) (v := .ref (q 17)) hx hb hts hi2 hown hI rfl rfl (by decide) (hts (.fieldLink RX2 9 "Buildlots$Mirrors" "updatedOn" "[I") (List.mem_of_getElem? (i := 2) rfl)) rfl rfl dX2_append_6 ?_
  refine lv_iload_n hx hb dX2_append_9 rfl (lv_at hl 0 rfl) ?_
  refine lv_iconst (v := (-1)) hx hb dX2_append_10 (by decide) ?_
  have hS := hS.mono (B := qA 19 q) (fun _ h => h.elim)
  refine r_iast (w' := wX cy q (uA A 13 (upd (A 13) nm (-1))) S) (q0 := 17) (j := nm) (n := 3) (f := (A 13)) hx hb hI hS hqA hh0 (qA_X hI) rfl hcm hlt (by decide) dX2_append_11 rfl (fun H locs hI hS => ?_)
  refine lv_aload_n hx hb dX2_append_12 rfl (lv_at hl 1 rfl) ?_
  refine r_get (C := RX2) (T := TX2) (N := 3) (k := 1) (q0 := 3) (v := .ref (q 18)) hx hb hts hi2 hown hI rfl rfl (by decide) (hts (.fieldLink RX2 15 "Buildlots$Mirrors" "offered" "[I") (List.mem_of_getElem? (i := 3) rfl)) rfl rfl dX2_append_13 ?_
  refine lv_iload_n hx hb dX2_append_16 rfl (lv_at hl 0 rfl) ?_
  refine lv_iconst (v := 0) hx hb dX2_append_17 (by decide) ?_
  refine r_iast (w' := wX cy q (uA (uA A 13 (upd (A 13) nm (-1))) 14 (upd (A 14) nm 0)) S) (q0 := 18) (j := nm) (n := 3) (f := (A 14)) hx hb hI hS hqA hh0 (qA_X hI) rfl hcm hlt (by decide) dX2_append_18 rfl (fun H locs hI hS => ?_)
  refine lv_aload_n hx hb dX2_append_19 rfl (lv_at hl 1 rfl) ?_
  refine lv_dup hx hb dX2_append_20 rfl ?_
  refine r_get (C := RX2) (T := TX2) (N := 3) (k := 2) (q0 := 3) (v := .int (S 6)) hx hb hts hi2 hown hI rfl rfl (by decide) (hts (.fieldLink RX2 18 "Buildlots$Mirrors" "count" "I") (List.mem_of_getElem? (i := 1) rfl)) rfl rfl dX2_append_21 ?_
  refine lv_iconst (v := 1) hx hb dX2_append_24 (by decide) ?_
  refine lv_iadd hx hb dX2_append_25 ?_
  refine r_put (w' := wX cy q (uA (uA A 13 (upd (A 13) nm (-1))) 14 (upd (A 14) nm 0)) (uS S 6 ((S 6) + 1))) (C := RX2) (T := TX2) (N := 3) (k := 2) (q0 := 3) (ty := .int) (v := .int ((S 6) + 1)) hx hb hts hi2 tyX2_ok nmX2 hown hI hS hqA hh0 (qA_X hI) rfl rfl (by decide) (hts (.fieldLink RX2 18 "Buildlots$Mirrors" "count" "I") (List.mem_of_getElem? (i := 1) rfl)) rfl rfl (by decide +kernel) rfl rfl (Nat.le_of_ble_eq_true rfl) dX2_append_26 rfl (fun H locs hI hS => ?_)
  refine lv_iload_n hx hb dX2_append_29 rfl (lv_at hl 0 rfl) ?_
  rw [show wX cy q (uA (uA A 13 (upd (A 13) nm (-1))) 14 (upd (A 14) nm 0)) (uS S 6 ((S 6) + 1)) = wX cy q (uA (uA A 13 (upd (A 13) nm (-1))) 14 (upd (A 14) nm 0)) (uS S 6 (S 6 + 1)) from rfl] at hI
  exact end_rwi hx hb hr rfl hI hS dX2_append_30 hlk

