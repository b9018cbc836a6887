/-! The model's private methods. Rows written by wip/whole/gen/part20.py. -/
theorem uS_uS (S : Nat → Int32) (k : Nat) (x y : Int32) : uS (uS S k x) k y = uS S k y := by
  funext i; by_cases h : i = k <;> simp [uS, h]
def failsB (place : Int32) : Bool := !decide (place ≤ 0)
def inB (v lo hi : Int32) : Bool := !decide (v < lo) && !decide (hi < v)
def noR (x : Int32) (n : Nat) : Bool := !inR x n
theorem noR_c {x : Int32} {n : Nat} (hn : n ≤ 64) (h : noR x n = false) : ix x < n ∧ x = nI (ix x) := inR_c hn (by simpa [noR] using h)
theorem inB_R {x y : Int32} {n : Nat} (hy : y = nI n) (hn : n ≤ 64) : inB x 0 (y - 1) = inR x n := by
  subst hy
  have e1 : nI n - 1 < x ↔ ¬ x < nI n := by
    have h1 : (nI n).toInt = (n : Int) := nI_toInt (by omega)
    have h2 : (nI n - 1).toInt = (n : Int) - 1 := by
      rcases Nat.eq_zero_or_pos n with h | h
      · subst h; rfl
      · obtain ⟨k, rfl⟩ : ∃ k, n = k + 1 := ⟨n - 1, by omega⟩
        rw [nI_pred, nI_toInt (by omega)]; omega
    rw [Int32.lt_iff_toInt_lt, Int32.lt_iff_toInt_lt, h1, h2]; omega
  simp only [inB, inR, e1, decide_not, Bool.not_not]
theorem inB_3 (x : Int32) : inB x 0 3 = inR x 4 := inB_R (y := 4) (n := 4) rfl (by decide)
theorem inB_4 (x : Int32) : inB x 0 4 = inR x 5 := inB_R (y := 5) (n := 5) rfl (by decide)
/-- is there one among the first n -/
def anyF (p : Nat → Bool) : Nat → Bool
  | 0 => false
  | k + 1 => anyF p k || p k
theorem any_t {p : Nat → Bool} {k : Nat} (hp : p k = true) : ∀ {n : Nat}, k < n → anyF p n = true
  | 0, h => absurd h (Nat.not_lt_zero _)
  | n + 1, h => by
    rcases Nat.lt_or_ge k n with h2 | h2
    · simp [anyF, any_t hp h2]
    · obtain rfl : k = n := by omega
      simp [anyF, hp]
theorem any_s {p : Nat → Bool} {k : Nat} (h : anyF p k = false) (hp : p k = false) : anyF p (k + 1) = false := by simp [anyF, h, hp]
def liveM (A : Nat → Nat → Int32) (S : Nat → Int32) (j : Nat) : Bool := decide (A 5 j = 0) && inB (S 4) (A 3 j) (A 4 j)
def btF (x : Int32) : Nat → Int32
  | 0 => 0
  | k + 1 => btF x k + ((x >>> (nI k &&& 31)) &&& 1)
def bkP (A : Nat → Nat → Int32) (S : Nat → Int32) (sg : Int32) (j : Nat) (lo : Int32) (k : Nat) : Bool := !decide (nI k = lo) && (decide (A 2 k = sg) && (liveM A S k && decide ((A 10 j >>> (nI k &&& 31)) &&& 1 = 1)))
def smF (A : Nat → Nat → Int32) (S : Nat → Int32) (j : Nat) (lo : Int32) (nk : Nat) : Nat → UInt32
  | 0 => FP.fconst0
  | k + 1 => if anyF (bkP A S (nI k) j lo) nk = true then FP.fadd (smF A S j lo nk k) (FP.fdiv (FP.i2f (A 0 k)) f100) else smF A S j lo nk k
theorem smF_nn (A : Nat → Nat → Int32) (S : Nat → Int32) (j : Nat) (lo : Int32) (nk : Nat) : ∀ k, FP.Core.fIsNaN (smF A S j lo nk k) = false
  | 0 => by show FP.Core.fIsNaN FP.fconst0 = false; decide +kernel
  | k + 1 => by
    unfold smF
    split
    · exact FP.Core.fadd_out (smF_nn A S j lo nk k) (fin_div _)
    · exact smF_nn A S j lo nk k
theorem nn_sm (A : Nat → Nat → Int32) (S : Nat → Int32) (j : Nat) (lo : Int32) (nk k : Nat) : vf_n32 (FP.fadd (smF A S j lo nk k) (FP.fdiv (FP.i2f (A 0 k)) f100)) := nn32 (FP.Core.fadd_out (smF_nn A S j lo nk k) (fin_div _))
def enB (A : Nat → Nat → Int32) (S : Nat → Int32) (j : Nat) (lo : Int32) (nk : Nat) : Bool := !decide (Op.cmpValue (FP.fcmp (smF A S j lo nk 4) (FP.fdiv (FP.i2f (A 1 (ix (A 6 j)))) f100)) CmpOp.l < 0)
def twF (A : Nat → Nat → Int32) (S : Nat → Int32) (lo : Int32) (nk : Nat) : Nat → Int32
  | 0 => 0
  | k + 1 => if enB A S k lo nk = true then twF A S lo nk k ||| ((1 : Int32) <<< (nI k &&& 31)) else twF A S lo nk k
def gnP (A : Nat → Nat → Int32) (j b : Nat) : Bool := !decide (A 11 b = 0) && decide ((A 8 j >>> (nI b &&& 31)) &&& 1 = 1)
def gnB (A : Nat → Nat → Int32) (j : Nat) : Bool := !decide (A 11 j = 0) || anyF (gnP A j) j
def rmF (A : Nat → Nat → Int32) : Nat → Int32
  | 0 => 0
  | k + 1 => if gnB A k = true then rmF A k ||| ((1 : Int32) <<< (nI k &&& 31)) else rmF A k
def arP (A : Nat → Nat → Int32) (x : Int32) (b : Nat) : Bool := decide ((x >>> (nI b &&& 31)) &&& 1 = 1) && gnB A b
def grF (f : Nat → Int32) (name x : Int32) : Nat → Int32
  | 0 => -1
  | k + 1 => if f k = name then (if (x >>> (nI k &&& 31)) &&& 1 = 1 then nI k else grF f name x k) else grF f name x k
theorem bkP_S {A : Nat → Nat → Int32} {S S' : Nat → Int32} (h : S 4 = S' 4) : bkP A S = bkP A S' := by
  funext sg j lo k; simp only [bkP, liveM, h]
theorem smF_S {A : Nat → Nat → Int32} {S S' : Nat → Int32} (h : S 4 = S' 4) (j : Nat) (lo : Int32) (nk : Nat) : ∀ k, smF A S j lo nk k = smF A S' j lo nk k
  | 0 => rfl
  | k + 1 => by simp only [smF, bkP_S h, smF_S h j lo nk k]
theorem enB_S {A : Nat → Nat → Int32} {S S' : Nat → Int32} (h : S 4 = S' 4) (j : Nat) (lo : Int32) (nk : Nat) : enB A S j lo nk = enB A S' j lo nk := by simp only [enB, smF_S h]
theorem twF_S {A : Nat → Nat → Int32} {S S' : Nat → Int32} (h : S 4 = S' 4) (lo : Int32) (nk : Nat) : ∀ k, twF A S lo nk k = twF A S' lo nk k
  | 0 => rfl
  | k + 1 => by simp only [twF, enB_S h, twF_S h lo nk k]
theorem liveM_5 (A : Nat → Nat → Int32) (S : Nat → Int32) (y : Int32) (j : Nat) : liveM A (uS S 5 y) j = liveM A S j := rfl
theorem bkP_5 (A : Nat → Nat → Int32) (S : Nat → Int32) (y : Int32) : bkP A (uS S 5 y) = bkP A S := bkP_S rfl
theorem smF_5 (A : Nat → Nat → Int32) (S : Nat → Int32) (y : Int32) (j : Nat) (lo : Int32) (nk k : Nat) : smF A (uS S 5 y) j lo nk k = smF A S j lo nk k := smF_S (S := uS S 5 y) (S' := S) rfl j lo nk k
theorem enB_5 (A : Nat → Nat → Int32) (S : Nat → Int32) (y : Int32) (j : Nat) (lo : Int32) (nk : Nat) : enB A (uS S 5 y) j lo nk = enB A S j lo nk := enB_S rfl j lo nk
theorem twF_5 (A : Nat → Nat → Int32) (S : Nat → Int32) (y : Int32) (lo : Int32) (nk k : Nat) : twF A (uS S 5 y) lo nk k = twF A S lo nk k := twF_S (S := uS S 5 y) (S' := S) rfl lo nk k
def oldB (A : Nat → Nat → Int32) (S : Nat → Int32) (j : Nat) : Bool := decide (A 16 j < 0) || !decide (S 4 - A 16 j ≤ S 3)
theorem oldB_5 (A : Nat → Nat → Int32) (S : Nat → Int32) (y : Int32) (j : Nat) : oldB A (uS S 5 y) j = oldB A S j := rfl

set_option maxHeartbeats 4000000 in
set_option maxRecDepth 100000 in
theorem c_X4_thrown (l : Launch) (D : va_G) (cy : Nat → ClassId) (h0 : Nat) (q : Nat → Nat) (A : Nat → Nat → Int32) (S : Nat → Int32) : Met l yX4_thrown wsX4_thrown (rmO 1 0) (va_Pc [.ref (q 0)] (pI D cy h0 (wM cy q A S))) (roI (S 5)) 0 0 nof := by
  refine Met.ofW (cc := cX4_thrown) (maxL := 1) (ret := (some .int)) (by decide) rfl ?_
  intro p e s m args below meth c s₁ B hml hv
  obtain ⟨rfl, hI⟩ := hv
  have hx := B.exec
  have hb := B.bytes
  have hr := B.returns
  have hts := atoms_spec (ws := wsX4_thrown) B.pre
  have hown : s.vm.findClass RX4 = some m.cls := findClass_of_methodNamed B.named
  have hlk := B.notSynchronized
  have hI : IH D cy h0 (wM cy q A S) s s.heap := hI
  have hG := hI.1
  have hS : va_S nof s.heap s.heap [] := va_S.rf
  have hi4 : ∀ w ∈ wsX40, w ∈ wsX4_thrown := by decide +kernel
  have hl := lv_entry ([.ref (q 0)]) (n := 1) (Nat.le_of_ble_eq_true rfl)
  rw [lg_entry_eq]
  generalize (lg_sl ([.ref (q 0)]) ++ List.replicate (1 - (lg_sl ([.ref (q 0)])).length) Slot.unset).toArray = ls at hl ⊢
  have hl : lv_has ls 1 [(0, .ref (q 0))] := hl
  refine lv_aload_n hx hb dX4_thrown_0 rfl (lv_at hl 0 rfl) ?_
  refine r_get (C := RX4) (T := TX4) (N := 23) (k := 22) (q0 := 0) (v := .int (S 5)) hx hb hts hi4 hown hI rfl rfl (by decide) (hts (.fieldLink RX4 66 "BuildlotsModel" "code" "I") (List.mem_of_getElem? (i := 1) rfl)) rfl rfl dX4_thrown_1 ?_
  exact end_roi hx hb hr rfl hS dX4_thrown_4 hlk

set_option maxHeartbeats 4000000 in
set_option maxRecDepth 100000 in
theorem c_X4_fails (l : Launch) (D : va_G) (cy : Nat → ClassId) (h0 : Nat) (q : Nat → Nat) (A : Nat → Nat → Int32) (S : Nat → Int32) (place : Int32) : Met l yX4_fails wsX4_fails (rmO 1 0) (va_Pc [.ref (q 0), .int place] (pI D cy h0 (wM cy q A S))) (rwI (bI (failsB place)) D cy h0 (wM cy q A (uS S 5 place)) (qA 18 q)) 0 0 (qA 18 q) := by
  refine Met.ofW (cc := cX4_fails) (maxL := 2) (ret := (some .boolean)) (by decide) rfl ?_
  intro p e s m args below meth c s₁ B hml hv
  obtain ⟨rfl, hI⟩ := hv
  have hx := B.exec
  have hb := B.bytes
  have hr := B.returns
  have hts := atoms_spec (ws := wsX4_fails) B.pre
  have hown : s.vm.findClass RX4 = some m.cls := findClass_of_methodNamed B.named
  have hlk := B.notSynchronized
  have hI : IH D cy h0 (wM cy q A S) s s.heap := hI
  have hG := hI.1
  have hqA := hA_M hI
  have hh0 : h0 ≤ s.heap.size := hI.1.2.2.2
  have hS : va_S nof s.heap s.heap [] := va_S.rf
  have hi4 : ∀ w ∈ wsX40, w ∈ wsX4_fails := by decide +kernel
  have hl := lv_entry ([.ref (q 0), .int place]) (n := 2) (Nat.le_of_ble_eq_true rfl)
  rw [lg_entry_eq]
  generalize (lg_sl ([.ref (q 0), .int place]) ++ List.replicate (2 - (lg_sl ([.ref (q 0), .int place])).length) Slot.unset).toArray = ls at hl ⊢
  have hl : lv_has ls 2 [(0, .ref (q 0)), (1, .int place)] := hl
  refine lv_aload_n hx hb dX4_fails_0 rfl (lv_at hl 0 rfl) ?_
  refine lv_iload_n hx hb dX4_fails_1 rfl (lv_at hl 1 rfl) ?_
  have hS := hS.mono (B := qA 18 q) (fun _ h => h.elim)
  refine r_put (w' := wM cy q A (uS S 5 place)) (C := RX4) (T := TX4) (N := 23) (k := 22) (q0 := 0) (ty := .int) (v := .int place) hx hb hts hi4 tyX4_ok nmX4 hown hI hS hqA hh0 (qA_M hI) rfl rfl (by decide) (hts (.fieldLink RX4 66 "BuildlotsModel" "code" "I") (List.mem_of_getElem? (i := 1) rfl)) rfl rfl (by decide +kernel) rfl rfl (Nat.le_of_ble_eq_true rfl) dX4_fails_2 rfl (fun H locs hI hS => ?_)
  refine lv_iload_n hx hb dX4_fails_5 rfl (lv_at hl 1 rfl) ?_
  refine lv_if_le (tgt := 13) hx hb dX4_fails_6 (by decide) (fun c6_1 => ?_) (fun c6_1 => ?_)
  · refine lv_iconst (v := 0) hx hb dX4_fails_13 (by decide) ?_
    exact end_rwz hx hb hr rfl (by simp [failsB, bI, c6_1]) hI hS dX4_fails_14 hlk
  · refine lv_iconst (v := 1) hx hb dX4_fails_9 (by decide) ?_
    refine lv_goto (tgt := 14) hx hb dX4_fails_10 (by decide) ?_
    exact end_rwz hx hb hr rfl (by simp [failsB, bI, c6_1]) hI hS dX4_fails_14 hlk

set_option maxHeartbeats 4000000 in
set_option maxRecDepth 100000 in
theorem c_X4_tells (l : Launch) (D : va_G) (cy : Nat → ClassId) (h0 : Nat) (q : Nat → Nat) (A : Nat → Nat → Int32) (S : Nat → Int32) (v : Int32) : Met l yX4_tells wsX4_tells (rmO 1 0) (va_Pc [.ref (q 0), .int v] (pI D cy h0 (wM cy q A S))) (rwI v D cy h0 (wM cy q A (uS S 5 0)) (qA 18 q)) 0 0 (qA 18 q) := by
  refine Met.ofW (cc := cX4_tells) (maxL := 2) (ret := (some .int)) (by decide) rfl ?_
  intro p e s m args below meth c s₁ B hml hv
  obtain ⟨rfl, hI⟩ := hv
  have hx := B.exec
  have hb := B.bytes
  have hr := B.returns
  have hts := atoms_spec (ws := wsX4_tells) B.pre
  have hown : s.vm.findClass RX4 = some m.cls := findClass_of_methodNamed B.named
  have hlk := B.notSynchronized
  have hI : IH D cy h0 (wM cy q A S) s s.heap := hI
  have hG := hI.1
  have hqA := hA_M hI
  have hh0 : h0 ≤ s.heap.size := hI.1.2.2.2
  have hS : va_S nof s.heap s.heap [] := va_S.rf
  have hi4 : ∀ w ∈ wsX40, w ∈ wsX4_tells := by decide +kernel
  have hl := lv_entry ([.ref (q 0), .int v]) (n := 2) (Nat.le_of_ble_eq_true rfl)
  rw [lg_entry_eq]
  generalize (lg_sl ([.ref (q 0), .int v]) ++ List.replicate (2 - (lg_sl ([.ref (q 0), .int v])).length) Slot.unset).toArray = ls at hl ⊢
  have hl : lv_has ls 2 [(0, .ref (q 0)), (1, .int v)] := hl
  refine lv_aload_n hx hb dX4_tells_0 rfl (lv_at hl 0 rfl) ?_
  refine lv_iconst (v := 0) hx hb dX4_tells_1 (by decide) ?_
  have hS := hS.mono (B := qA 18 q) (fun _ h => h.elim)
  refine r_put (w' := wM cy q A (uS S 5 0)) (C := RX4) (T := TX4) (N := 23) (k := 22) (q0 := 0) (ty := .int) (v := .int 0) hx hb hts hi4 tyX4_ok nmX4 hown hI hS hqA hh0 (qA_M hI) rfl rfl (by decide) (hts (.fieldLink RX4 66 "BuildlotsModel" "code" "I") (List.mem_of_getElem? (i := 1) rfl)) rfl rfl (by decide +kernel) rfl rfl (Nat.le_of_ble_eq_true rfl) dX4_tells_2 rfl (fun H locs hI hS => ?_)
  refine lv_iload_n hx hb dX4_tells_5 rfl (lv_at hl 1 rfl) ?_
  exact end_rwi hx hb hr rfl hI hS dX4_tells_6 hlk

set_option maxHeartbeats 4000000 in
set_option maxRecDepth 100000 in
theorem c_X4_in (l : Launch) (v : Int32) (lo : Int32) (hi : Int32) : Met l yX4_in wsX4_in (rmO 1 0) (va_Pc [.int v, .int lo, .int hi] (fun _ => True)) (roI (bI (inB v lo hi))) 0 0 nof := by
  refine Met.ofW (cc := cX4_in) (maxL := 3) (ret := (some .boolean)) (by decide) rfl ?_
  intro p e s m args below meth c s₁ B hml hv
  obtain ⟨rfl, hI⟩ := hv
  have hx := B.exec
  have hb := B.bytes
  have hr := B.returns
  have hts := atoms_spec (ws := wsX4_in) B.pre
  have hown : s.vm.findClass RX4 = some m.cls := findClass_of_methodNamed B.named
  have hlk := B.notSynchronized
  have hS : va_S nof s.heap s.heap [] := va_S.rf
  have hl := lv_entry ([.int v, .int lo, .int hi]) (n := 3) (Nat.le_of_ble_eq_true rfl)
  rw [lg_entry_eq]
  generalize (lg_sl ([.int v, .int lo, .int hi]) ++ List.replicate (3 - (lg_sl ([.int v, .int lo, .int hi])).length) Slot.unset).toArray = ls at hl ⊢
  have hl : lv_has ls 3 [(0, .int v), (1, .int lo), (2, .int hi)] := hl
  refine lv_iload_n hx hb dX4_in_0 rfl (lv_at hl 0 rfl) ?_
  refine lv_iload_n hx hb dX4_in_1 rfl (lv_at hl 1 rfl) ?_
  refine lv_icmp_lt (tgt := 14) hx hb dX4_in_2 (by decide) (fun c2_1 => ?_) (fun c2_1 => ?_)
  · refine lv_iconst (v := 0) hx hb dX4_in_14 (by decide) ?_
    exact end_roz hx hb hr rfl (by simp [inB, bI, c2_1]) hS dX4_in_15 hlk
  · refine lv_iload_n hx hb dX4_in_5 rfl (lv_at hl 0 rfl) ?_
    refine lv_iload_n hx hb dX4_in_6 rfl (lv_at hl 2 rfl) ?_
    refine lv_icmp_gt (tgt := 14) hx hb dX4_in_7 (by decide) (fun c7_2 => ?_) (fun c7_2 => ?_)
    · refine lv_iconst (v := 0) hx hb dX4_in_14 (by decide) ?_
      exact end_roz hx hb hr rfl (by simp [inB, bI, c2_1, c7_2]) hS dX4_in_15 hlk
    · refine lv_iconst (v := 1) hx hb dX4_in_10 (by decide) ?_
      refine lv_goto (tgt := 15) hx hb dX4_in_11 (by decide) ?_
      exact end_roz hx hb hr rfl (by simp [inB, bI, c2_1, c7_2]) hS dX4_in_15 hlk

set_option maxHeartbeats 4000000 in
set_option maxRecDepth 100000 in
theorem c_X4_isNoKey (l : Launch) (D : va_G) (cy : Nat → ClassId) (h0 : Nat) (q : Nat → Nat) (A : Nat → Nat → Int32) (S : Nat → Int32) (x : Int32) (nk : Nat) (hnk : nk ≤ 8) (hck : S 0 = nI nk) : Met l yX4_isNoKey wsX4_isNoKey (rmO 2 22) (va_Pc [.ref (q 0), .int x] (pI D cy h0 (wM cy q A S))) (rwI (bI (noR x nk)) D cy h0 (wM cy q A (uS S 5 (bI (noR x nk)))) (qA 18 q)) 0 0 (qA 18 q) := by
  refine Met.ofW (cc := cX4_isNoKey) (maxL := 2) (ret := (some .boolean)) (by decide) rfl ?_
  intro p e s m args below meth c s₁ B hml hv
  obtain ⟨rfl, hI⟩ := hv
  have hx := B.exec
  have hb := B.bytes
  have hr := B.returns
  have hts := atoms_spec (ws := wsX4_isNoKey) B.pre
  have hown : s.vm.findClass RX4 = some m.cls := findClass_of_methodNamed B.named
  have hlk := B.notSynchronized
  have hI : IH D cy h0 (wM cy q A S) s s.heap := hI
  have hG := hI.1
  have hqA := hA_M hI
  have hh0 : h0 ≤ s.heap.size := hI.1.2.2.2
  have hS : va_S nof s.heap s.heap [] := va_S.rf
  have hi4 : ∀ w ∈ wsX40, w ∈ wsX4_isNoKey := by decide +kernel
  have hl := lv_entry ([.ref (q 0), .int x]) (n := 2) (Nat.le_of_ble_eq_true rfl)
  rw [lg_entry_eq]
  generalize (lg_sl ([.ref (q 0), .int x]) ++ List.replicate (2 - (lg_sl ([.ref (q 0), .int x])).length) Slot.unset).toArray = ls at hl ⊢
  have hl : lv_has ls 2 [(0, .ref (q 0)), (1, .int x)] := hl
  refine lv_aload_n hx hb dX4_isNoKey_0 rfl (lv_at hl 0 rfl) ?_
  refine lv_iload_n hx hb dX4_isNoKey_1 rfl (lv_at hl 1 rfl) ?_
  refine lv_iconst (v := 0) hx hb dX4_isNoKey_2 (by decide) ?_
  refine lv_aload_n hx hb dX4_isNoKey_3 rfl (lv_at hl 0 rfl) ?_
  refine r_get (C := RX4) (T := TX4) (N := 23) (k := 2) (q0 := 0) (v := .int (S 0)) hx hb hts hi4 hown hI rfl rfl (by decide) (hts (.fieldLink RX4 69 "BuildlotsModel" "keys" "I") (List.mem_of_getElem? (i := 1) rfl)) rfl rfl dX4_isNoKey_4 ?_
  refine lv_iconst (v := 1) hx hb dX4_isNoKey_7 (by decide) ?_
  refine lv_isub hx hb dX4_isNoKey_8 ?_
  refine ro_i (va_runS (As := [.int x, .int 0, .int ((S 0) - 1)]) (rest := [.ref (q 0)]) ⟨hx, hb, hml, hown, hts⟩ (c_X4_in l x 0 ((S 0) - 1)) (va_cwS 3 hts gX4_isNoKey_X4_in rfl rfl rfl (by decide +kernel) ⟨Nat.le_of_ble_eq_true rfl, Nat.le_of_ble_eq_true rfl⟩) preT rfl rfl hl.1 rfl (lv_room (Nat.le_of_ble_eq_true rfl)) dX4_isNoKey_9 ⟨Nat.le_of_ble_eq_true rfl, Nat.le_of_ble_eq_true rfl⟩) hI hS (fun H locs hI hS => ?_)
  rw [show (bI (inB x 0 ((S 0) - 1))) = bI (inR x nk) from (congrArg bI (inB_R hck (by omega)))]
  refine r_ifeq_b (tgt := 19) hx hb dX4_isNoKey_12 (by decide) (fun c12_1 => ?_) (fun c12_1 => ?_)
  · refine lv_iconst (v := 1) hx hb dX4_isNoKey_19 (by decide) ?_
    have hS := hS.mono (B := qA 18 q) (fun _ h => h.elim)
    refine rw_i (w' := wM cy q A (uS S 5 1)) (va_runV (As := [.int 1]) (rest := []) ⟨hx, hb, hml, hown, hts⟩ (c_X4_fails l D cy h0 q A S 1) (cwV 1 hts gX4_isNoKey_X4_fails rfl rfl rfl (by decide +kernel) ⟨Nat.le_of_ble_eq_true rfl, Nat.le_of_ble_eq_true rfl⟩) (hI.preV (k0 := 0) rfl rfl) rfl rfl hl.1 rfl (lv_room (Nat.le_of_ble_eq_true rfl)) dX4_isNoKey_20 ⟨Nat.le_of_ble_eq_true rfl, Nat.le_of_ble_eq_true rfl⟩) hI hS (fun _ h => h) hqA (fun H locs hI hS => ?_)
    rw [show (bI (failsB 1)) = 1 from (by decide)]
    rw [show wM cy q A (uS S 5 1) = wM cy q A (uS S 5 (bI (noR x nk))) from (by simp [noR, bI, c12_1])] at hI
    exact end_rwz hx hb hr rfl (by simp [noR, bI, c12_1]) hI hS dX4_isNoKey_23 hlk
  · obtain ⟨hj_x, hk_x⟩ := inR_c (by omega) c12_1
    refine lv_iconst (v := 0) hx hb dX4_isNoKey_15 (by decide) ?_
    refine lv_goto (tgt := 20) hx hb dX4_isNoKey_16 (by decide) ?_
    have hS := hS.mono (B := qA 18 q) (fun _ h => h.elim)
    refine rw_i (w' := wM cy q A (uS S 5 0)) (va_runV (As := [.int 0]) (rest := []) ⟨hx, hb, hml, hown, hts⟩ (c_X4_fails l D cy h0 q A S 0) (cwV 1 hts gX4_isNoKey_X4_fails rfl rfl rfl (by decide +kernel) ⟨Nat.le_of_ble_eq_true rfl, Nat.le_of_ble_eq_true rfl⟩) (hI.preV (k0 := 0) rfl rfl) rfl rfl hl.1 rfl (lv_room (Nat.le_of_ble_eq_true rfl)) dX4_isNoKey_20 ⟨Nat.le_of_ble_eq_true rfl, Nat.le_of_ble_eq_true rfl⟩) hI hS (fun _ h => h) hqA (fun H locs hI hS => ?_)
    rw [show (bI (failsB 0)) = 0 from (by decide)]
    rw [show wM cy q A (uS S 5 0) = wM cy q A (uS S 5 (bI (noR x nk))) from (by simp [noR, bI, c12_1])] at hI
    exact end_rwz hx hb hr rfl (by simp [noR, bI, c12_1]) hI hS dX4_isNoKey_23 hlk

set_option maxHeartbeats 4000000 in
set_option maxRecDepth 100000 in
theorem c_X4_isNoBuild (l : Launch) (D : va_G) (cy : Nat → ClassId) (h0 : Nat) (q : Nat → Nat) (A : Nat → Nat → Int32) (S : Nat → Int32) (x : Int32) (nb : Nat) (hnb : nb ≤ 24) (hcb : S 1 = nI nb) : Met l yX4_isNoBuild wsX4_isNoBuild (rmO 2 22) (va_Pc [.ref (q 0), .int x] (pI D cy h0 (wM cy q A S))) (rwI (bI (noR x nb)) D cy h0 (wM cy q A (uS S 5 (bI (noR x nb)))) (qA 18 q)) 0 0 (qA 18 q) := by
  refine Met.ofW (cc := cX4_isNoBuild) (maxL := 2) (ret := (some .boolean)) (by decide) rfl ?_
  intro p e s m args below meth c s₁ B hml hv
  obtain ⟨rfl, hI⟩ := hv
  have hx := B.exec
  have hb := B.bytes
  have hr := B.returns
  have hts := atoms_spec (ws := wsX4_isNoBuild) B.pre
  have hown : s.vm.findClass RX4 = some m.cls := findClass_of_methodNamed B.named
  have hlk := B.notSynchronized
  have hI : IH D cy h0 (wM cy q A S) s s.heap := hI
  have hG := hI.1
  have hqA := hA_M hI
  have hh0 : h0 ≤ s.heap.size := hI.1.2.2.2
  have hS : va_S nof s.heap s.heap [] := va_S.rf
  have hi4 : ∀ w ∈ wsX40, w ∈ wsX4_isNoBuild := by decide +kernel
  have hl := lv_entry ([.ref (q 0), .int x]) (n := 2) (Nat.le_of_ble_eq_true rfl)
  rw [lg_entry_eq]
  generalize (lg_sl ([.ref (q 0), .int x]) ++ List.replicate (2 - (lg_sl ([.ref (q 0), .int x])).length) Slot.unset).toArray = ls at hl ⊢
  have hl : lv_has ls 2 [(0, .ref (q 0)), (1, .int x)] := hl
  refine lv_aload_n hx hb dX4_isNoBuild_0 rfl (lv_at hl 0 rfl) ?_
  refine lv_iload_n hx hb dX4_isNoBuild_1 rfl (lv_at hl 1 rfl) ?_
  refine lv_iconst (v := 0) hx hb dX4_isNoBuild_2 (by decide) ?_
  refine lv_aload_n hx hb dX4_isNoBuild_3 rfl (lv_at hl 0 rfl) ?_
  refine r_get (C := RX4) (T := TX4) (N := 23) (k := 7) (q0 := 0) (v := .int (S 1)) hx hb hts hi4 hown hI rfl rfl (by decide) (hts (.fieldLink RX4 80 "BuildlotsModel" "builds" "I") (List.mem_of_getElem? (i := 1) rfl)) rfl rfl dX4_isNoBuild_4 ?_
  refine lv_iconst (v := 1) hx hb dX4_isNoBuild_7 (by decide) ?_
  refine lv_isub hx hb dX4_isNoBuild_8 ?_
  refine ro_i (va_runS (As := [.int x, .int 0, .int ((S 1) - 1)]) (rest := [.ref (q 0)]) ⟨hx, hb, hml, hown, hts⟩ (c_X4_in l x 0 ((S 1) - 1)) (va_cwS 3 hts gX4_isNoBuild_X4_in rfl rfl rfl (by decide +kernel) ⟨Nat.le_of_ble_eq_true rfl, Nat.le_of_ble_eq_true rfl⟩) preT rfl rfl hl.1 rfl (lv_room (Nat.le_of_ble_eq_true rfl)) dX4_isNoBuild_9 ⟨Nat.le_of_ble_eq_true rfl, Nat.le_of_ble_eq_true rfl⟩) hI hS (fun H locs hI hS => ?_)
  rw [show (bI (inB x 0 ((S 1) - 1))) = bI (inR x nb) from (congrArg bI (inB_R hcb (by omega)))]
  refine r_ifeq_b (tgt := 19) hx hb dX4_isNoBuild_12 (by decide) (fun c12_1 => ?_) (fun c12_1 => ?_)
  · refine lv_iconst (v := 1) hx hb dX4_isNoBuild_19 (by decide) ?_
    have hS := hS.mono (B := qA 18 q) (fun _ h => h.elim)
    refine rw_i (w' := wM cy q A (uS S 5 1)) (va_runV (As := [.int 1]) (rest := []) ⟨hx, hb, hml, hown, hts⟩ (c_X4_fails l D cy h0 q A S 1) (cwV 1 hts gX4_isNoBuild_X4_fails rfl rfl rfl (by decide +kernel) ⟨Nat.le_of_ble_eq_true rfl, Nat.le_of_ble_eq_true rfl⟩) (hI.preV (k0 := 0) rfl rfl) rfl rfl hl.1 rfl (lv_room (Nat.le_of_ble_eq_true rfl)) dX4_isNoBuild_20 ⟨Nat.le_of_ble_eq_true rfl, Nat.le_of_ble_eq_true rfl⟩) hI hS (fun _ h => h) hqA (fun H locs hI hS => ?_)
    rw [show (bI (failsB 1)) = 1 from (by decide)]
    rw [show wM cy q A (uS S 5 1) = wM cy q A (uS S 5 (bI (noR x nb))) from (by simp [noR, bI, c12_1])] at hI
    exact end_rwz hx hb hr rfl (by simp [noR, bI, c12_1]) hI hS dX4_isNoBuild_23 hlk
  · obtain ⟨hj_x, hk_x⟩ := inR_c (by omega) c12_1
    refine lv_iconst (v := 0) hx hb dX4_isNoBuild_15 (by decide) ?_
    refine lv_goto (tgt := 20) hx hb dX4_isNoBuild_16 (by decide) ?_
    have hS := hS.mono (B := qA 18 q) (fun _ h => h.elim)
    refine rw_i (w' := wM cy q A (uS S 5 0)) (va_runV (As := [.int 0]) (rest := []) ⟨hx, hb, hml, hown, hts⟩ (c_X4_fails l D cy h0 q A S 0) (cwV 1 hts gX4_isNoBuild_X4_fails rfl rfl rfl (by decide +kernel) ⟨Nat.le_of_ble_eq_true rfl, Nat.le_of_ble_eq_true rfl⟩) (hI.preV (k0 := 0) rfl rfl) rfl rfl hl.1 rfl (lv_room (Nat.le_of_ble_eq_true rfl)) dX4_isNoBuild_20 ⟨Nat.le_of_ble_eq_true rfl, Nat.le_of_ble_eq_true rfl⟩) hI hS (fun _ h => h) hqA (fun H locs hI hS => ?_)
    rw [show (bI (failsB 0)) = 0 from (by decide)]
    rw [show wM cy q A (uS S 5 0) = wM cy q A (uS S 5 (bI (noR x nb))) from (by simp [noR, bI, c12_1])] at hI
    exact end_rwz hx hb hr rfl (by simp [noR, bI, c12_1]) hI hS dX4_isNoBuild_23 hlk

set_option maxHeartbeats 4000000 in
set_option maxRecDepth 100000 in
theorem c_X4_isNoMirror (l : Launch) (D : va_G) (cy : Nat → ClassId) (h0 : Nat) (q : Nat → Nat) (A : Nat → Nat → Int32) (S : Nat → Int32) (x : Int32) (nm : Nat) (hnm : nm ≤ 3) (hcm : S 2 = nI nm) : Met l yX4_isNoMirror wsX4_isNoMirror (rmO 2 22) (va_Pc [.ref (q 0), .int x] (pI D cy h0 (wM cy q A S))) (rwI (bI (noR x nm)) D cy h0 (wM cy q A (uS S 5 (bI (noR x nm)))) (qA 18 q)) 0 0 (qA 18 q) := by
  refine Met.ofW (cc := cX4_isNoMirror) (maxL := 2) (ret := (some .boolean)) (by decide) rfl ?_
  intro p e s m args below meth c s₁ B hml hv
  obtain ⟨rfl, hI⟩ := hv
  have hx := B.exec
  have hb := B.bytes
  have hr := B.returns
  have hts := atoms_spec (ws := wsX4_isNoMirror) B.pre
  have hown : s.vm.findClass RX4 = some m.cls := findClass_of_methodNamed B.named
  have hlk := B.notSynchronized
  have hI : IH D cy h0 (wM cy q A S) s s.heap := hI
  have hG := hI.1
  have hqA := hA_M hI
  have hh0 : h0 ≤ s.heap.size := hI.1.2.2.2
  have hS : va_S nof s.heap s.heap [] := va_S.rf
  have hi4 : ∀ w ∈ wsX40, w ∈ wsX4_isNoMirror := by decide +kernel
  have hl := lv_entry ([.ref (q 0), .int x]) (n := 2) (Nat.le_of_ble_eq_true rfl)
  rw [lg_entry_eq]
  generalize (lg_sl ([.ref (q 0), .int x]) ++ List.replicate (2 - (lg_sl ([.ref (q 0), .int x])).length) Slot.unset).toArray = ls at hl ⊢
  have hl : lv_has ls 2 [(0, .ref (q 0)), (1, .int x)] := hl
  refine lv_aload_n hx hb dX4_isNoMirror_0 rfl (lv_at hl 0 rfl) ?_
  refine lv_iload_n hx hb dX4_isNoMirror_1 rfl (lv_at hl 1 rfl) ?_
  refine lv_iconst (v := 0) hx hb dX4_isNoMirror_2 (by decide) ?_
  refine lv_aload_n hx hb dX4_isNoMirror_3 rfl (lv_at hl 0 rfl) ?_
  refine r_get (C := RX4) (T := TX4) (N := 23) (k := 16) (q0 := 0) (v := .int (S 2)) hx hb hts hi4 hown hI rfl rfl (by decide) (hts (.fieldLink RX4 83 "BuildlotsModel" "mirrors" "I") (List.mem_of_getElem? (i := 1) rfl)) rfl rfl dX4_isNoMirror_4 ?_
  refine lv_iconst (v := 1) hx hb dX4_isNoMirror_7 (by decide) ?_
  refine lv_isub hx hb dX4_isNoMirror_8 ?_
  refine ro_i (va_runS (As := [.int x, .int 0, .int ((S 2) - 1)]) (rest := [.ref (q 0)]) ⟨hx, hb, hml, hown, hts⟩ (c_X4_in l x 0 ((S 2) - 1)) (va_cwS 3 hts gX4_isNoMirror_X4_in rfl rfl rfl (by decide +kernel) ⟨Nat.le_of_ble_eq_true rfl, Nat.le_of_ble_eq_true rfl⟩) preT rfl rfl hl.1 rfl (lv_room (Nat.le_of_ble_eq_true rfl)) dX4_isNoMirror_9 ⟨Nat.le_of_ble_eq_true rfl, Nat.le_of_ble_eq_true rfl⟩) hI hS (fun H locs hI hS => ?_)
  rw [show (bI (inB x 0 ((S 2) - 1))) = bI (inR x nm) from (congrArg bI (inB_R hcm (by omega)))]
  refine r_ifeq_b (tgt := 19) hx hb dX4_isNoMirror_12 (by decide) (fun c12_1 => ?_) (fun c12_1 => ?_)
  · refine lv_iconst (v := 1) hx hb dX4_isNoMirror_19 (by decide) ?_
    have hS := hS.mono (B := qA 18 q) (fun _ h => h.elim)
    refine rw_i (w' := wM cy q A (uS S 5 1)) (va_runV (As := [.int 1]) (rest := []) ⟨hx, hb, hml, hown, hts⟩ (c_X4_fails l D cy h0 q A S 1) (cwV 1 hts gX4_isNoMirror_X4_fails rfl rfl rfl (by decide +kernel) ⟨Nat.le_of_ble_eq_true rfl, Nat.le_of_ble_eq_true rfl⟩) (hI.preV (k0 := 0) rfl rfl) rfl rfl hl.1 rfl (lv_room (Nat.le_of_ble_eq_true rfl)) dX4_isNoMirror_20 ⟨Nat.le_of_ble_eq_true rfl, Nat.le_of_ble_eq_true rfl⟩) hI hS (fun _ h => h) hqA (fun H locs hI hS => ?_)
    rw [show (bI (failsB 1)) = 1 from (by decide)]
    rw [show wM cy q A (uS S 5 1) = wM cy q A (uS S 5 (bI (noR x nm))) from (by simp [noR, bI, c12_1])] at hI
    exact end_rwz hx hb hr rfl (by simp [noR, bI, c12_1]) hI hS dX4_isNoMirror_23 hlk
  · obtain ⟨hj_x, hk_x⟩ := inR_c (by omega) c12_1
    refine lv_iconst (v := 0) hx hb dX4_isNoMirror_15 (by decide) ?_
    refine lv_goto (tgt := 20) hx hb dX4_isNoMirror_16 (by decide) ?_
    have hS := hS.mono (B := qA 18 q) (fun _ h => h.elim)
    refine rw_i (w' := wM cy q A (uS S 5 0)) (va_runV (As := [.int 0]) (rest := []) ⟨hx, hb, hml, hown, hts⟩ (c_X4_fails l D cy h0 q A S 0) (cwV 1 hts gX4_isNoMirror_X4_fails rfl rfl rfl (by decide +kernel) ⟨Nat.le_of_ble_eq_true rfl, Nat.le_of_ble_eq_true rfl⟩) (hI.preV (k0 := 0) rfl rfl) rfl rfl hl.1 rfl (lv_room (Nat.le_of_ble_eq_true rfl)) dX4_isNoMirror_20 ⟨Nat.le_of_ble_eq_true rfl, Nat.le_of_ble_eq_true rfl⟩) hI hS (fun _ h => h) hqA (fun H locs hI hS => ?_)
    rw [show (bI (failsB 0)) = 0 from (by decide)]
    rw [show wM cy q A (uS S 5 0) = wM cy q A (uS S 5 (bI (noR x nm))) from (by simp [noR, bI, c12_1])] at hI
    exact end_rwz hx hb hr rfl (by simp [noR, bI, c12_1]) hI hS dX4_isNoMirror_23 hlk

set_option maxHeartbeats 4000000 in
set_option maxRecDepth 100000 in
theorem c_X4_isNoName (l : Launch) (x : Int32) : Met l yX4_isNoName wsX4_isNoName (rmO 2 22) (va_Pc [.int x] (fun _ => True)) (roI (bI (noR x 5))) 0 0 nof := by
  refine Met.ofW (cc := cX4_isNoName) (maxL := 1) (ret := (some .boolean)) (by decide) rfl ?_
  intro p e s m args below meth c s₁ B hml hv
  obtain ⟨rfl, hI⟩ := hv
  have hx := B.exec
  have hb := B.bytes
  have hr := B.returns
  have hts := atoms_spec (ws := wsX4_isNoName) B.pre
  have hown : s.vm.findClass RX4 = some m.cls := findClass_of_methodNamed B.named
  have hlk := B.notSynchronized
  have hS : va_S nof s.heap s.heap [] := va_S.rf
  have hl := lv_entry ([.int x]) (n := 1) (Nat.le_of_ble_eq_true rfl)
  rw [lg_entry_eq]
  generalize (lg_sl ([.int x]) ++ List.replicate (1 - (lg_sl ([.int x])).length) Slot.unset).toArray = ls at hl ⊢
  have hl : lv_has ls 1 [(0, .int x)] := hl
  refine lv_iload_n hx hb dX4_isNoName_0 rfl (lv_at hl 0 rfl) ?_
  refine lv_iconst (v := 0) hx hb dX4_isNoName_1 (by decide) ?_
  refine lv_iconst (v := 4) hx hb dX4_isNoName_2 (by decide) ?_
  refine ro0_i (va_runS (As := [.int x, .int 0, .int 4]) (rest := []) ⟨hx, hb, hml, hown, hts⟩ (c_X4_in l x 0 4) (va_cwS 3 hts gX4_isNoName_X4_in rfl rfl rfl (by decide +kernel) ⟨Nat.le_of_ble_eq_true rfl, Nat.le_of_ble_eq_true rfl⟩) preT rfl rfl hl.1 rfl (lv_room (Nat.le_of_ble_eq_true rfl)) dX4_isNoName_3 ⟨Nat.le_of_ble_eq_true rfl, Nat.le_of_ble_eq_true rfl⟩) hS (fun H locs hS => ?_)
  rw [show (bI (inB x 0 4)) = bI (inR x 5) from (congrArg bI (inB_4 _))]
  refine r_ifne_b (tgt := 13) hx hb dX4_isNoName_6 (by decide) (fun c6_1 => ?_) (fun c6_1 => ?_)
  · obtain ⟨hj_x, hk_x⟩ := inR_c (by omega) c6_1
    refine lv_iconst (v := 0) hx hb dX4_isNoName_13 (by decide) ?_
    exact end_roz hx hb hr rfl (by simp [noR, bI, c6_1]) hS dX4_isNoName_14 hlk
  · refine lv_iconst (v := 1) hx hb dX4_isNoName_9 (by decide) ?_
    refine lv_goto (tgt := 14) hx hb dX4_isNoName_10 (by decide) ?_
    exact end_roz hx hb hr rfl (by simp [noR, bI, c6_1]) hS dX4_isNoName_14 hlk

set_option maxHeartbeats 4000000 in
set_option maxRecDepth 100000 in
theorem c_X4_bits (l : Launch) (x : Int32) : Met l yX4_bits wsX4_bits (rmO 1 0) (va_Pc [.int x] (fun _ => True)) (roI (btF x 24)) 0 0 nof := by
  refine Met.ofW (cc := cX4_bits) (maxL := 3) (ret := (some .int)) (by decide) rfl ?_
  intro p e s m args below meth c s₁ B hml hv
  obtain ⟨rfl, hI⟩ := hv
  have hx := B.exec
  have hb := B.bytes
  have hr := B.returns
  have hts := atoms_spec (ws := wsX4_bits) B.pre
  have hown : s.vm.findClass RX4 = some m.cls := findClass_of_methodNamed B.named
  have hlk := B.notSynchronized
  have hS : va_S nof s.heap s.heap [] := va_S.rf
  have hl := lv_entry ([.int x]) (n := 3) (Nat.le_of_ble_eq_true rfl)
  rw [lg_entry_eq]
  generalize (lg_sl ([.int x]) ++ List.replicate (3 - (lg_sl ([.int x])).length) Slot.unset).toArray = ls at hl ⊢
  have hl : lv_has ls 3 [(0, .int x)] := hl
  refine lv_iconst (v := 0) hx hb dX4_bits_0 (by decide) ?_
  refine lv_istore_n (lv' := [(1, .int 0), (0, .int x)]) hx hb dX4_bits_1 rfl hl (by decide) rfl (fun ls hl => ?_)
  refine lv_iconst (v := 0) hx hb dX4_bits_2 (by decide) ?_
  refine lv_istore_n (lv' := [(2, .int 0), (1, .int 0), (0, .int x)]) hx hb dX4_bits_3 rfl hl (by decide) rfl (fun ls hl => ?_)
  suffices KL4 : ∀ (n9 k : Nat), k + n9 = 24 → ∀ (H : Heap) (locs : List Loc), va_S (nof) s.heap H locs → ∀ ls : Array Slot, lv_has ls 3 [(2, .int (nI k)), (1, .int (btF x k)), (0, .int x)] → W p l e (headSpec wsX4_bits (rmO 1 0)).room s m ([.int x]).toArray below meth c H locs 0 0 (MQ below (roI (btF x 24)) ([.int x]).toArray s 0 0 nof) (F0 m 4 ls []) by
    exact KL4 24 0 (by omega) _ _ hS ls ((lv_sub hl [0, 1, 2] rfl))
  intro n9
  induction n9 with
  | zero =>
    intro k hk H locs hS ls hl
    have hk : 24 = k := by omega
    subst hk
    refine lv_iload_n hx hb dX4_bits_4 rfl (lv_at hl 0 rfl) ?_
    refine lv_bipush (v := 24) hx hb dX4_bits_5 (by decide) ?_
    refine lv_icmp_ge (tgt := 24) hx hb dX4_bits_7 (by decide) (fun c7_1 => ?_) (fun c7_1 => ?_)
    rotate_left
    · exact absurd (i_ge rfl (show (24 : Int32) = nI 24 from rfl) (Nat.le_refl _) (by omega)) c7_1
    refine lv_iload_n hx hb dX4_bits_24 rfl (lv_at hl 1 rfl) ?_
    exact end_roi hx hb hr rfl hS dX4_bits_25 hlk
  | succ n9 ih4 =>
    intro k hk H locs hS ls hl
    have hk4 : k < 24 := by omega
    refine lv_iload_n hx hb dX4_bits_4 rfl (lv_at hl 0 rfl) ?_
    refine lv_bipush (v := 24) hx hb dX4_bits_5 (by decide) ?_
    refine lv_icmp_ge (tgt := 24) hx hb dX4_bits_7 (by decide) (fun c7_2 => ?_) (fun c7_2 => ?_)
    · exact absurd c7_2 (i_nge rfl (show (24 : Int32) = nI 24 from rfl) (by omega) (by omega))
    refine lv_iload_n hx hb dX4_bits_10 rfl (lv_at hl 1 rfl) ?_
    refine lv_iload_n hx hb dX4_bits_11 rfl (lv_at hl 2 rfl) ?_
    refine lv_iload_n hx hb dX4_bits_12 rfl (lv_at hl 0 rfl) ?_
    refine lv_ishr hx hb dX4_bits_13 ?_
    refine lv_iconst (v := 1) hx hb dX4_bits_14 (by decide) ?_
    refine lv_iand hx hb dX4_bits_15 ?_
    refine lv_iadd hx hb dX4_bits_16 ?_
    refine lv_istore_n (lv' := [(1, .int ((btF x k) + ((x >>> ((nI k) &&& 31)) &&& 1))), (2, .int (nI k)), (0, .int x)]) hx hb dX4_bits_17 rfl hl (by decide) rfl (fun ls hl => ?_)
    refine lv_iinc (v := nI (k + 1)) (lv' := [(2, .int (nI (k + 1))), (1, .int ((btF x k) + ((x >>> ((nI k) &&& 31)) &&& 1))), (0, .int x)]) hx hb dX4_bits_18 hl (k := 1) rfl (nI_1 k) (by decide) rfl (fun ls hl => ?_)
    refine lv_goto (tgt := 4) hx hb dX4_bits_21 (by decide) ?_
    rw [show ((btF x k) + ((x >>> ((nI k) &&& 31)) &&& 1)) = (btF x (k + 1)) from (by first | (simp only [btF, c7_2, ↓reduceIte, Bool.false_eq_true, reduceCtorEq]; done) | simp [btF, c7_2])] at hl
    exact ih4 (k + 1) (by omega) _ _ hS ls (lv_sub hl [0, 1, 2] rfl)

set_option maxHeartbeats 4000000 in
set_option maxRecDepth 100000 in
theorem c_X4_lives (l : Launch) (D : va_G) (cy : Nat → ClassId) (h0 : Nat) (q : Nat → Nat) (A : Nat → Nat → Int32) (S : Nat → Int32) (x : Int32) (j : Nat) (hj : j < 8) (hkx : x = nI j) : Met l yX4_lives wsX4_lives (rmO 2 22) (va_Pc [.ref (q 0), .int x] (pI D cy h0 (wM cy q A S))) (roI (bI (liveM A S j))) 0 0 nof := by
  refine Met.ofW (cc := cX4_lives) (maxL := 2) (ret := (some .boolean)) (by decide) rfl ?_
  intro p e s m args below meth c s₁ B hml hv
  obtain ⟨rfl, hI⟩ := hv
  have hx := B.exec
  have hb := B.bytes
  have hr := B.returns
  have hts := atoms_spec (ws := wsX4_lives) B.pre
  have hown : s.vm.findClass RX4 = some m.cls := findClass_of_methodNamed B.named
  have hlk := B.notSynchronized
  have hI : IH D cy h0 (wM cy q A S) s s.heap := hI
  have hG := hI.1
  have hS : va_S nof s.heap s.heap [] := va_S.rf
  have hi4 : ∀ w ∈ wsX40, w ∈ wsX4_lives := by decide +kernel
  have hl := lv_entry ([.ref (q 0), .int x]) (n := 2) (Nat.le_of_ble_eq_true rfl)
  rw [lg_entry_eq]
  generalize (lg_sl ([.ref (q 0), .int x]) ++ List.replicate (2 - (lg_sl ([.ref (q 0), .int x])).length) Slot.unset).toArray = ls at hl ⊢
  have hl : lv_has ls 2 [(0, .ref (q 0)), (1, .int x)] := hl
  refine lv_aload_n hx hb dX4_lives_0 rfl (lv_at hl 0 rfl) ?_
  refine r_get (C := RX4) (T := TX4) (N := 23) (k := 6) (q0 := 0) (v := .ref (q 6)) hx hb hts hi4 hown hI rfl rfl (by decide) (hts (.fieldLink RX4 25 "BuildlotsModel" "areLost" "[Z") (List.mem_of_getElem? (i := 1) rfl)) rfl rfl dX4_lives_1 ?_
  refine lv_iload_n hx hb dX4_lives_4 rfl (lv_at hl 1 rfl) ?_
  refine r_zald (q0 := 6) (j := j) (n := 8) (f := (A 5)) hx hb hI rfl hkx hj (by decide) dX4_lives_5 ?_
  refine lv_if_ne (tgt := 35) hx hb dX4_lives_6 (by decide) (fun c6_1 => ?_) (fun c6_1 => ?_)
  · refine lv_iconst (v := 0) hx hb dX4_lives_35 (by decide) ?_
    exact end_roz hx hb hr rfl (by simp [liveM, bI, c6_1, ]) hS dX4_lives_36 hlk
  · refine lv_aload_n hx hb dX4_lives_9 rfl (lv_at hl 0 rfl) ?_
    refine r_get (C := RX4) (T := TX4) (N := 23) (k := 21) (q0 := 0) (v := .int (S 4)) hx hb hts hi4 hown hI rfl rfl (by decide) (hts (.fieldLink RX4 86 "BuildlotsModel" "day" "I") (List.mem_of_getElem? (i := 2) rfl)) rfl rfl dX4_lives_10 ?_
    refine lv_aload_n hx hb dX4_lives_13 rfl (lv_at hl 0 rfl) ?_
    refine r_get (C := RX4) (T := TX4) (N := 23) (k := 4) (q0 := 0) (v := .ref (q 4)) hx hb hts hi4 hown hI rfl rfl (by decide) (hts (.fieldLink RX4 19 "BuildlotsModel" "firsts" "[I") (List.mem_of_getElem? (i := 3) rfl)) rfl rfl dX4_lives_14 ?_
    refine lv_iload_n hx hb dX4_lives_17 rfl (lv_at hl 1 rfl) ?_
    refine r_iald (q0 := 4) (j := j) (n := 8) (f := (A 3)) hx hb hI rfl hkx hj (by decide) dX4_lives_18 ?_
    refine lv_aload_n hx hb dX4_lives_19 rfl (lv_at hl 0 rfl) ?_
    refine r_get (C := RX4) (T := TX4) (N := 23) (k := 5) (q0 := 0) (v := .ref (q 5)) hx hb hts hi4 hown hI rfl rfl (by decide) (hts (.fieldLink RX4 22 "BuildlotsModel" "lasts" "[I") (List.mem_of_getElem? (i := 4) rfl)) rfl rfl dX4_lives_20 ?_
    refine lv_iload_n hx hb dX4_lives_23 rfl (lv_at hl 1 rfl) ?_
    refine r_iald (q0 := 5) (j := j) (n := 8) (f := (A 4)) hx hb hI rfl hkx hj (by decide) dX4_lives_24 ?_
    refine ro_i (va_runS (As := [.int (S 4), .int (A 3 j), .int (A 4 j)]) (rest := []) ⟨hx, hb, hml, hown, hts⟩ (c_X4_in l (S 4) (A 3 j) (A 4 j)) (va_cwS 3 hts gX4_lives_X4_in rfl rfl rfl (by decide +kernel) ⟨Nat.le_of_ble_eq_true rfl, Nat.le_of_ble_eq_true rfl⟩) preT rfl rfl hl.1 rfl (lv_room (Nat.le_of_ble_eq_true rfl)) dX4_lives_25 ⟨Nat.le_of_ble_eq_true rfl, Nat.le_of_ble_eq_true rfl⟩) hI hS (fun H locs hI hS => ?_)
    refine r_ifeq_b (tgt := 35) hx hb dX4_lives_28 (by decide) (fun c28_2 => ?_) (fun c28_2 => ?_)
    · refine lv_iconst (v := 0) hx hb dX4_lives_35 (by decide) ?_
      exact end_roz hx hb hr rfl (by simp [liveM, bI, c6_1, c28_2, ]) hS dX4_lives_36 hlk
    · refine lv_iconst (v := 1) hx hb dX4_lives_31 (by decide) ?_
      refine lv_goto (tgt := 36) hx hb dX4_lives_32 (by decide) ?_
      exact end_roz hx hb hr rfl (by simp [liveM, bI, c6_1, c28_2, ]) hS dX4_lives_36 hlk

set_option maxHeartbeats 4000000 in
set_option maxRecDepth 100000 in
theorem c_X4_backs (l : Launch) (D : va_G) (cy : Nat → ClassId) (h0 : Nat) (q : Nat → Nat) (A : Nat → Nat → Int32) (S : Nat → Int32) (sg : Int32) (x : Int32) (lo : Int32) (nk : Nat) (hnk : nk ≤ 8) (hck : S 0 = nI nk) (j : Nat) (hj : j < 24) (hkx : x = nI j) : Met l yX4_backs wsX4_backs (rmO 3 43) (va_Pc [.ref (q 0), .int sg, .int x, .int lo] (pI D cy h0 (wM cy q A S))) (roI (bI (anyF (bkP A S sg j lo) nk))) 0 0 nof := by
  refine Met.ofW (cc := cX4_backs) (maxL := 5) (ret := (some .boolean)) (by decide) rfl ?_
  intro p e s m args below meth c s₁ B hml hv
  obtain ⟨rfl, hI⟩ := hv
  have hx := B.exec
  have hb := B.bytes
  have hr := B.returns
  have hts := atoms_spec (ws := wsX4_backs) B.pre
  have hown : s.vm.findClass RX4 = some m.cls := findClass_of_methodNamed B.named
  have hlk := B.notSynchronized
  have hI : IH D cy h0 (wM cy q A S) s s.heap := hI
  have hG := hI.1
  have hS : va_S nof s.heap s.heap [] := va_S.rf
  have hi4 : ∀ w ∈ wsX40, w ∈ wsX4_backs := by decide +kernel
  have hl := lv_entry ([.ref (q 0), .int sg, .int x, .int lo]) (n := 5) (Nat.le_of_ble_eq_true rfl)
  rw [lg_entry_eq]
  generalize (lg_sl ([.ref (q 0), .int sg, .int x, .int lo]) ++ List.replicate (5 - (lg_sl ([.ref (q 0), .int sg, .int x, .int lo])).length) Slot.unset).toArray = ls at hl ⊢
  have hl : lv_has ls 5 [(0, .ref (q 0)), (1, .int sg), (2, .int x), (3, .int lo)] := hl
  refine lv_iconst (v := 0) hx hb dX4_backs_0 (by decide) ?_
  refine lv_istore (lv' := [(4, .int 0), (0, .ref (q 0)), (1, .int sg), (2, .int x), (3, .int lo)]) hx hb dX4_backs_1 hl (by decide) rfl (fun ls hl => ?_)
  suffices KL3 : ∀ (n9 k : Nat), k + n9 = nk → (anyF (bkP A S sg j lo) k = false) → ∀ (H : Heap) (locs : List Loc), IH D cy h0 (wM cy q A S) s H → va_S (nof) s.heap H locs → ∀ ls : Array Slot, lv_has ls 5 [(4, .int (nI k)), (0, .ref (q 0)), (1, .int sg), (2, .int x), (3, .int lo)] → W p l e (headSpec wsX4_backs (rmO 3 43)).room s m ([.ref (q 0), .int sg, .int x, .int lo]).toArray below meth c H locs 0 0 (MQ below (roI (bI (anyF (bkP A S sg j lo) nk))) ([.ref (q 0), .int sg, .int x, .int lo]).toArray s 0 0 nof) (F0 m 3 ls []) by
    exact KL3 nk 0 (by omega) rfl _ _ hI hS ls ((lv_sub hl [0, 1, 2, 3, 4] rfl))
  intro n9
  induction n9 with
  | zero =>
    intro k hk hv H locs hI hS ls hl
    have hk : nk = k := by omega
    subst hk
    refine lv_iload hx hb dX4_backs_3 (lv_at hl 0 rfl) ?_
    refine lv_aload_n hx hb dX4_backs_5 rfl (lv_at hl 1 rfl) ?_
    refine r_get (C := RX4) (T := TX4) (N := 23) (k := 2) (q0 := 0) (v := .int (S 0)) hx hb hts hi4 hown hI rfl rfl (by decide) (hts (.fieldLink RX4 69 "BuildlotsModel" "keys" "I") (List.mem_of_getElem? (i := 1) rfl)) rfl rfl dX4_backs_6 ?_
    refine lv_icmp_ge (tgt := 61) hx hb dX4_backs_9 (by decide) (fun c9_1 => ?_) (fun c9_1 => ?_)
    rotate_left
    · exact absurd (i_ge rfl hck (Nat.le_refl _) (by omega)) c9_1
    refine lv_iconst (v := 0) hx hb dX4_backs_61 (by decide) ?_
    exact end_roz hx hb hr rfl (by rw [hv]; rfl) hS dX4_backs_62 hlk
  | succ n9 ih3 =>
    intro k hk hv H locs hI hS ls hl
    have hk3 : k < nk := by omega
    refine lv_iload hx hb dX4_backs_3 (lv_at hl 0 rfl) ?_
    refine lv_aload_n hx hb dX4_backs_5 rfl (lv_at hl 1 rfl) ?_
    refine r_get (C := RX4) (T := TX4) (N := 23) (k := 2) (q0 := 0) (v := .int (S 0)) hx hb hts hi4 hown hI rfl rfl (by decide) (hts (.fieldLink RX4 69 "BuildlotsModel" "keys" "I") (List.mem_of_getElem? (i := 1) rfl)) rfl rfl dX4_backs_6 ?_
    refine lv_icmp_ge (tgt := 61) hx hb dX4_backs_9 (by decide) (fun c9_2 => ?_) (fun c9_2 => ?_)
    · exact absurd c9_2 (i_nge rfl hck (by omega) (by omega))
    refine lv_iload hx hb dX4_backs_12 (lv_at hl 0 rfl) ?_
    refine lv_iload_n hx hb dX4_backs_14 rfl (lv_at hl 4 rfl) ?_
    refine lv_icmp_eq (tgt := 55) hx hb dX4_backs_15 (by decide) (fun c15_3 => ?_) (fun c15_3 => ?_)
    · refine lv_iinc (v := nI (k + 1)) (lv' := [(4, .int (nI (k + 1))), (0, .ref (q 0)), (1, .int sg), (2, .int x), (3, .int lo)]) hx hb dX4_backs_55 hl (k := 0) rfl (nI_1 k) (by decide) rfl (fun ls hl => ?_)
      refine lv_goto (tgt := 3) hx hb dX4_backs_58 (by decide) ?_
      exact ih3 (k + 1) (by omega) (any_s hv (by simp [bkP, c9_2, c15_3, ])) _ _ hI hS ls (lv_sub hl [0, 1, 2, 3, 4] rfl)
    · refine lv_aload_n hx hb dX4_backs_18 rfl (lv_at hl 1 rfl) ?_
      refine r_get (C := RX4) (T := TX4) (N := 23) (k := 3) (q0 := 0) (v := .ref (q 3)) hx hb hts hi4 hown hI rfl rfl (by decide) (hts (.fieldLink RX4 16 "BuildlotsModel" "signers" "[I") (List.mem_of_getElem? (i := 2) rfl)) rfl rfl dX4_backs_19 ?_
      refine lv_iload hx hb dX4_backs_22 (lv_at hl 0 rfl) ?_
      refine r_iald (q0 := 3) (j := k) (n := 8) (f := (A 2)) hx hb hI rfl rfl (by omega) (by decide) dX4_backs_24 ?_
      refine lv_iload_n hx hb dX4_backs_25 rfl (lv_at hl 2 rfl) ?_
      refine lv_icmp_ne (tgt := 55) hx hb dX4_backs_26 (by decide) (fun c26_4 => ?_) (fun c26_4 => ?_)
      · refine lv_iinc (v := nI (k + 1)) (lv' := [(4, .int (nI (k + 1))), (0, .ref (q 0)), (1, .int sg), (2, .int x), (3, .int lo)]) hx hb dX4_backs_55 hl (k := 0) rfl (nI_1 k) (by decide) rfl (fun ls hl => ?_)
        refine lv_goto (tgt := 3) hx hb dX4_backs_58 (by decide) ?_
        exact ih3 (k + 1) (by omega) (any_s hv (by simp [bkP, c9_2, c15_3, c26_4, ])) _ _ hI hS ls (lv_sub hl [0, 1, 2, 3, 4] rfl)
      · refine lv_aload_n hx hb dX4_backs_29 rfl (lv_at hl 1 rfl) ?_
        refine lv_iload hx hb dX4_backs_30 (lv_at hl 0 rfl) ?_
        refine ro_i (va_runV (As := [.int (nI k)]) (rest := []) ⟨hx, hb, hml, hown, hts⟩ (c_X4_lives l D cy h0 q A S (nI k) k (by omega) rfl) (cwV 1 hts gX4_backs_X4_lives rfl rfl rfl (by decide +kernel) ⟨Nat.le_of_ble_eq_true rfl, Nat.le_of_ble_eq_true rfl⟩) (hI.preV (k0 := 0) rfl rfl) rfl rfl hl.1 rfl (lv_room (Nat.le_of_ble_eq_true rfl)) dX4_backs_32 ⟨Nat.le_of_ble_eq_true rfl, Nat.le_of_ble_eq_true rfl⟩) hI hS (fun H locs hI hS => ?_)
        refine r_ifeq_b (tgt := 55) hx hb dX4_backs_35 (by decide) (fun c35_5 => ?_) (fun c35_5 => ?_)
        · refine lv_iinc (v := nI (k + 1)) (lv' := [(4, .int (nI (k + 1))), (0, .ref (q 0)), (1, .int sg), (2, .int x), (3, .int lo)]) hx hb dX4_backs_55 hl (k := 0) rfl (nI_1 k) (by decide) rfl (fun ls hl => ?_)
          refine lv_goto (tgt := 3) hx hb dX4_backs_58 (by decide) ?_
          exact ih3 (k + 1) (by omega) (any_s hv (by simp [bkP, c9_2, c15_3, c26_4, c35_5, ])) _ _ hI hS ls (lv_sub hl [0, 1, 2, 3, 4] rfl)
        · refine lv_aload_n hx hb dX4_backs_38 rfl (lv_at hl 1 rfl) ?_
          refine r_get (C := RX4) (T := TX4) (N := 23) (k := 12) (q0 := 0) (v := .ref (q 11)) hx hb hts hi4 hown hI rfl rfl (by decide) (hts (.fieldLink RX4 41 "BuildlotsModel" "attested" "[I") (List.mem_of_getElem? (i := 3) rfl)) rfl rfl dX4_backs_39 ?_
          refine lv_iload_n hx hb dX4_backs_42 rfl (lv_at hl 3 rfl) ?_
          refine r_iald (q0 := 11) (j := j) (n := 24) (f := (A 10)) hx hb hI rfl hkx hj (by decide) dX4_backs_43 ?_
          refine lv_iload hx hb dX4_backs_44 (lv_at hl 0 rfl) ?_
          refine lv_ishr hx hb dX4_backs_46 ?_
          refine lv_iconst (v := 1) hx hb dX4_backs_47 (by decide) ?_
          refine lv_iand hx hb dX4_backs_48 ?_
          refine lv_iconst (v := 1) hx hb dX4_backs_49 (by decide) ?_
          refine lv_icmp_ne (tgt := 55) hx hb dX4_backs_50 (by decide) (fun c50_6 => ?_) (fun c50_6 => ?_)
          · refine lv_iinc (v := nI (k + 1)) (lv' := [(4, .int (nI (k + 1))), (0, .ref (q 0)), (1, .int sg), (2, .int x), (3, .int lo)]) hx hb dX4_backs_55 hl (k := 0) rfl (nI_1 k) (by decide) rfl (fun ls hl => ?_)
            refine lv_goto (tgt := 3) hx hb dX4_backs_58 (by decide) ?_
            exact ih3 (k + 1) (by omega) (any_s hv (by simp [bkP, c9_2, c15_3, c26_4, c35_5, c50_6, ])) _ _ hI hS ls (lv_sub hl [0, 1, 2, 3, 4] rfl)
          · refine lv_iconst (v := 1) hx hb dX4_backs_53 (by decide) ?_
            exact end_roz hx hb hr rfl (congrArg bI (any_t (k := k) (by simp [bkP, c9_2, c15_3, c26_4, c35_5, c50_6, ]) (by omega))).symm hS dX4_backs_54 hlk

set_option maxHeartbeats 4000000 in
set_option maxRecDepth 100000 in
theorem c_X4_scoreOf (l : Launch) (D : va_G) (cy : Nat → ClassId) (h0 : Nat) (q : Nat → Nat) (A : Nat → Nat → Int32) (S : Nat → Int32) (x : Int32) (lo : Int32) (nk : Nat) (hnk : nk ≤ 8) (hck : S 0 = nI nk) (j : Nat) (hj : j < 24) (hkx : x = nI j) : Met l yX4_scoreOf wsX4_scoreOf (rmO 4 67) (va_Pc [.ref (q 0), .int x, .int lo] (pI D cy h0 (wM cy q A S))) (roF (smF A S j lo nk 4)) 0 0 nof := by
  refine Met.ofW (cc := cX4_scoreOf) (maxL := 5) (ret := (some .float)) (by decide) rfl ?_
  intro p e s m args below meth c s₁ B hml hv
  obtain ⟨rfl, hI⟩ := hv
  have hx := B.exec
  have hb := B.bytes
  have hr := B.returns
  have hts := atoms_spec (ws := wsX4_scoreOf) B.pre
  have hown : s.vm.findClass RX4 = some m.cls := findClass_of_methodNamed B.named
  have hlk := B.notSynchronized
  have hI : IH D cy h0 (wM cy q A S) s s.heap := hI
  have hG := hI.1
  have hS : va_S nof s.heap s.heap [] := va_S.rf
  have hi4 : ∀ w ∈ wsX40, w ∈ wsX4_scoreOf := by decide +kernel
  have hl := lv_entry ([.ref (q 0), .int x, .int lo]) (n := 5) (Nat.le_of_ble_eq_true rfl)
  rw [lg_entry_eq]
  generalize (lg_sl ([.ref (q 0), .int x, .int lo]) ++ List.replicate (5 - (lg_sl ([.ref (q 0), .int x, .int lo])).length) Slot.unset).toArray = ls at hl ⊢
  have hl : lv_has ls 5 [(0, .ref (q 0)), (1, .int x), (2, .int lo)] := hl
  refine lv_fconst0 hx hb dX4_scoreOf_0 ?_
  refine lv_fstore_n (lv' := [(3, .float FP.fconst0), (0, .ref (q 0)), (1, .int x), (2, .int lo)]) hx hb dX4_scoreOf_1 rfl hl (by decide) rfl (fun ls hl => ?_)
  refine lv_iconst (v := 0) hx hb dX4_scoreOf_2 (by decide) ?_
  refine lv_istore (lv' := [(4, .int 0), (3, .float FP.fconst0), (0, .ref (q 0)), (1, .int x), (2, .int lo)]) hx hb dX4_scoreOf_3 hl (by decide) rfl (fun ls hl => ?_)
  suffices KL5 : ∀ (n9 k : Nat), k + n9 = 4 → ∀ (H : Heap) (locs : List Loc), IH D cy h0 (wM cy q A S) s H → va_S (nof) s.heap H locs → ∀ ls : Array Slot, lv_has ls 5 [(4, .int (nI k)), (3, .float (smF A S j lo nk k)), (0, .ref (q 0)), (1, .int x), (2, .int lo)] → W p l e (headSpec wsX4_scoreOf (rmO 4 67)).room s m ([.ref (q 0), .int x, .int lo]).toArray below meth c H locs 0 0 (MQ below (roF (smF A S j lo nk 4)) ([.ref (q 0), .int x, .int lo]).toArray s 0 0 nof) (F0 m 5 ls []) by
    exact KL5 4 0 (by omega) _ _ hI hS ls ((lv_sub hl [0, 1, 2, 3, 4] rfl))
  intro n9
  induction n9 with
  | zero =>
    intro k hk H locs hI hS ls hl
    have hk : 4 = k := by omega
    subst hk
    refine lv_iload hx hb dX4_scoreOf_5 (lv_at hl 0 rfl) ?_
    refine lv_iconst (v := 4) hx hb dX4_scoreOf_7 (by decide) ?_
    refine lv_icmp_ge (tgt := 42) hx hb dX4_scoreOf_8 (by decide) (fun c8_1 => ?_) (fun c8_1 => ?_)
    rotate_left
    · exact absurd (i_ge rfl (show (4 : Int32) = nI 4 from rfl) (Nat.le_refl _) (by omega)) c8_1
    refine lv_fload_n hx hb dX4_scoreOf_42 rfl (lv_at hl 1 rfl) ?_
    exact end_rof hx hb hr rfl hS dX4_scoreOf_43 hlk
  | succ n9 ih5 =>
    intro k hk H locs hI hS ls hl
    have hk5 : k < 4 := by omega
    refine lv_iload hx hb dX4_scoreOf_5 (lv_at hl 0 rfl) ?_
    refine lv_iconst (v := 4) hx hb dX4_scoreOf_7 (by decide) ?_
    refine lv_icmp_ge (tgt := 42) hx hb dX4_scoreOf_8 (by decide) (fun c8_2 => ?_) (fun c8_2 => ?_)
    · exact absurd c8_2 (i_nge rfl (show (4 : Int32) = nI 4 from rfl) (by omega) (by omega))
    refine lv_aload_n hx hb dX4_scoreOf_11 rfl (lv_at hl 2 rfl) ?_
    refine lv_iload hx hb dX4_scoreOf_12 (lv_at hl 0 rfl) ?_
    refine lv_iload_n hx hb dX4_scoreOf_14 rfl (lv_at hl 3 rfl) ?_
    refine lv_iload_n hx hb dX4_scoreOf_15 rfl (lv_at hl 4 rfl) ?_
    refine ro_i (va_runV (As := [.int (nI k), .int x, .int lo]) (rest := []) ⟨hx, hb, hml, hown, hts⟩ (c_X4_backs l D cy h0 q A S (nI k) x lo nk hnk hck j hj hkx) (cwV 3 hts gX4_scoreOf_X4_backs rfl rfl rfl (by decide +kernel) ⟨Nat.le_of_ble_eq_true rfl, Nat.le_of_ble_eq_true rfl⟩) (hI.preV (k0 := 0) rfl rfl) rfl rfl hl.1 rfl (lv_room (Nat.le_of_ble_eq_true rfl)) dX4_scoreOf_16 ⟨Nat.le_of_ble_eq_true rfl, Nat.le_of_ble_eq_true rfl⟩) hI hS (fun H locs hI hS => ?_)
    refine r_ifeq_b (tgt := 36) hx hb dX4_scoreOf_19 (by decide) (fun c19_3 => ?_) (fun c19_3 => ?_)
    · refine lv_iinc (v := nI (k + 1)) (lv' := [(4, .int (nI (k + 1))), (3, .float (smF A S j lo nk k)), (0, .ref (q 0)), (1, .int x), (2, .int lo)]) hx hb dX4_scoreOf_36 hl (k := 0) rfl (nI_1 k) (by decide) rfl (fun ls hl => ?_)
      refine lv_goto (tgt := 5) hx hb dX4_scoreOf_39 (by decide) ?_
      rw [show (smF A S j lo nk k) = (smF A S j lo nk (k + 1)) from (by first | (simp only [smF, c8_2, c19_3, ↓reduceIte, Bool.false_eq_true, reduceCtorEq]; done) | simp [smF, c8_2, c19_3])] at hl
      exact ih5 (k + 1) (by omega) _ _ hI hS ls (lv_sub hl [0, 1, 2, 3, 4] rfl)
    · refine lv_fload_n hx hb dX4_scoreOf_22 rfl (lv_at hl 1 rfl) ?_
      refine lv_aload_n hx hb dX4_scoreOf_23 rfl (lv_at hl 2 rfl) ?_
      refine r_get (C := RX4) (T := TX4) (N := 23) (k := 0) (q0 := 0) (v := .ref (q 1)) hx hb hts hi4 hown hI rfl rfl (by decide) (hts (.fieldLink RX4 7 "BuildlotsModel" "weights" "[I") (List.mem_of_getElem? (i := 1) rfl)) rfl rfl dX4_scoreOf_24 ?_
      refine lv_iload hx hb dX4_scoreOf_27 (lv_at hl 0 rfl) ?_
      refine r_iald (q0 := 1) (j := k) (n := 4) (f := (A 0)) hx hb hI rfl rfl (by omega) (by decide) dX4_scoreOf_29 ?_
      refine lv_i2f hx hb dX4_scoreOf_30 ?_
      refine lv_ldcf (v := 1120403456) hx hb hown (hts (.constantFloat RX4 129 (1120403456)) (List.mem_of_getElem? (i := 2) rfl)) dX4_scoreOf_31 ?_
      refine lv_fdiv hx hb dX4_scoreOf_33 (nn_div _) ?_
      refine lv_fadd hx hb dX4_scoreOf_34 (nn_sm _ _ _ _ _ _) ?_
      refine lv_fstore_n (lv' := [(3, .float (FP.fadd (smF A S j lo nk k) (FP.fdiv (FP.i2f (A 0 k)) f100))), (4, .int (nI k)), (0, .ref (q 0)), (1, .int x), (2, .int lo)]) hx hb dX4_scoreOf_35 rfl hl (by decide) rfl (fun ls hl => ?_)
      refine lv_iinc (v := nI (k + 1)) (lv' := [(4, .int (nI (k + 1))), (3, .float (FP.fadd (smF A S j lo nk k) (FP.fdiv (FP.i2f (A 0 k)) f100))), (0, .ref (q 0)), (1, .int x), (2, .int lo)]) hx hb dX4_scoreOf_36 hl (k := 1) rfl (nI_1 k) (by decide) rfl (fun ls hl => ?_)
      refine lv_goto (tgt := 5) hx hb dX4_scoreOf_39 (by decide) ?_
      rw [show (FP.fadd (smF A S j lo nk k) (FP.fdiv (FP.i2f (A 0 k)) f100)) = (smF A S j lo nk (k + 1)) from (by first | (simp only [smF, c8_2, c19_3, ↓reduceIte, Bool.false_eq_true, reduceCtorEq]; done) | simp [smF, c8_2, c19_3])] at hl
      exact ih5 (k + 1) (by omega) _ _ hI hS ls (lv_sub hl [0, 1, 2, 3, 4] rfl)

set_option maxHeartbeats 4000000 in
set_option maxRecDepth 100000 in
theorem c_X4_isEnough (l : Launch) (D : va_G) (cy : Nat → ClassId) (h0 : Nat) (q : Nat → Nat) (A : Nat → Nat → Int32) (S : Nat → Int32) (x : Int32) (lo : Int32) (nk : Nat) (hnk : nk ≤ 8) (hck : S 0 = nI nk) (j : Nat) (hj : j < 24) (hkx : x = nI j) (ht : ∃ t, t < 5 ∧ A 6 j = nI t) : Met l yX4_isEnough wsX4_isEnough (rmO 5 91) (va_Pc [.ref (q 0), .int x, .int lo] (pI D cy h0 (wM cy q A S))) (roI (bI (enB A S j lo nk))) 0 0 nof := by
  refine Met.ofW (cc := cX4_isEnough) (maxL := 3) (ret := (some .boolean)) (by decide) rfl ?_
  intro p e s m args below meth c s₁ B hml hv
  obtain ⟨rfl, hI⟩ := hv
  have hx := B.exec
  have hb := B.bytes
  have hr := B.returns
  have hts := atoms_spec (ws := wsX4_isEnough) B.pre
  have hown : s.vm.findClass RX4 = some m.cls := findClass_of_methodNamed B.named
  have hlk := B.notSynchronized
  have hI : IH D cy h0 (wM cy q A S) s s.heap := hI
  have hG := hI.1
  have hS : va_S nof s.heap s.heap [] := va_S.rf
  have hi4 : ∀ w ∈ wsX40, w ∈ wsX4_isEnough := by decide +kernel
  have hl := lv_entry ([.ref (q 0), .int x, .int lo]) (n := 3) (Nat.le_of_ble_eq_true rfl)
  rw [lg_entry_eq]
  generalize (lg_sl ([.ref (q 0), .int x, .int lo]) ++ List.replicate (3 - (lg_sl ([.ref (q 0), .int x, .int lo])).length) Slot.unset).toArray = ls at hl ⊢
  have hl : lv_has ls 3 [(0, .ref (q 0)), (1, .int x), (2, .int lo)] := hl
  obtain ⟨hjt, hkt⟩ := ix_c (by decide) ht
  refine lv_aload_n hx hb dX4_isEnough_0 rfl (lv_at hl 0 rfl) ?_
  refine lv_iload_n hx hb dX4_isEnough_1 rfl (lv_at hl 1 rfl) ?_
  refine lv_iload_n hx hb dX4_isEnough_2 rfl (lv_at hl 2 rfl) ?_
  refine ro_f (va_runV (As := [.int x, .int lo]) (rest := []) ⟨hx, hb, hml, hown, hts⟩ (c_X4_scoreOf l D cy h0 q A S x lo nk hnk hck j hj hkx) (cwV 2 hts gX4_isEnough_X4_scoreOf rfl rfl rfl (by decide +kernel) ⟨Nat.le_of_ble_eq_true rfl, Nat.le_of_ble_eq_true rfl⟩) (hI.preV (k0 := 0) rfl rfl) rfl rfl hl.1 rfl (lv_room (Nat.le_of_ble_eq_true rfl)) dX4_isEnough_3 ⟨Nat.le_of_ble_eq_true rfl, Nat.le_of_ble_eq_true rfl⟩) hI hS (fun H locs hI hS => ?_)
  refine lv_aload_n hx hb dX4_isEnough_6 rfl (lv_at hl 0 rfl) ?_
  refine r_get (C := RX4) (T := TX4) (N := 23) (k := 1) (q0 := 0) (v := .ref (q 2)) hx hb hts hi4 hown hI rfl rfl (by decide) (hts (.fieldLink RX4 13 "BuildlotsModel" "thresholds" "[I") (List.mem_of_getElem? (i := 1) rfl)) rfl rfl dX4_isEnough_7 ?_
  refine lv_aload_n hx hb dX4_isEnough_10 rfl (lv_at hl 0 rfl) ?_
  refine r_get (C := RX4) (T := TX4) (N := 23) (k := 8) (q0 := 0) (v := .ref (q 7)) hx hb hts hi4 hown hI rfl rfl (by decide) (hts (.fieldLink RX4 29 "BuildlotsModel" "names" "[I") (List.mem_of_getElem? (i := 2) rfl)) rfl rfl dX4_isEnough_11 ?_
  refine lv_iload_n hx hb dX4_isEnough_14 rfl (lv_at hl 1 rfl) ?_
  refine r_iald (q0 := 7) (j := j) (n := 24) (f := (A 6)) hx hb hI rfl hkx hj (by decide) dX4_isEnough_15 ?_
  refine r_iald (q0 := 2) (j := (ix (A 6 j))) (n := 5) (f := (A 1)) hx hb hI rfl hkt hjt (by decide) dX4_isEnough_16 ?_
  refine lv_i2f hx hb dX4_isEnough_17 ?_
  refine lv_ldcf (v := 1120403456) hx hb hown (hts (.constantFloat RX4 129 (1120403456)) (List.mem_of_getElem? (i := 3) rfl)) dX4_isEnough_18 ?_
  refine lv_fdiv hx hb dX4_isEnough_20 (nn_div _) ?_
  refine lv_fcmp hx hb dX4_isEnough_21 ?_
  refine lv_if_lt (tgt := 29) hx hb dX4_isEnough_22 (by decide) (fun c22_1 => ?_) (fun c22_1 => ?_)
  · refine lv_iconst (v := 0) hx hb dX4_isEnough_29 (by decide) ?_
    exact end_roz hx hb hr rfl (by simp [enB, bI, c22_1, ]) hS dX4_isEnough_30 hlk
  · refine lv_iconst (v := 1) hx hb dX4_isEnough_25 (by decide) ?_
    refine lv_goto (tgt := 30) hx hb dX4_isEnough_26 (by decide) ?_
    exact end_roz hx hb hr rfl (by simp [enB, bI, c22_1, ]) hS dX4_isEnough_30 hlk

set_option maxHeartbeats 4000000 in
set_option maxRecDepth 100000 in
theorem c_X4_trustedWithout (l : Launch) (D : va_G) (cy : Nat → ClassId) (h0 : Nat) (q : Nat → Nat) (A : Nat → Nat → Int32) (S : Nat → Int32) (lo : Int32) (nk : Nat) (hnk : nk ≤ 8) (hck : S 0 = nI nk) (nb : Nat) (hnb : nb ≤ 24) (hcb : S 1 = nI nb) (htn : ∀ b, b < nb → ∃ t, t < 5 ∧ A 6 b = nI t) : Met l yX4_trustedWithout wsX4_trustedWithout (rmO 6 113) (va_Pc [.ref (q 0), .int lo] (pI D cy h0 (wM cy q A S))) (roI (twF A S lo nk nb)) 0 0 nof := by
  refine Met.ofW (cc := cX4_trustedWithout) (maxL := 4) (ret := (some .int)) (by decide) rfl ?_
  intro p e s m args below meth c s₁ B hml hv
  obtain ⟨rfl, hI⟩ := hv
  have hx := B.exec
  have hb := B.bytes
  have hr := B.returns
  have hts := atoms_spec (ws := wsX4_trustedWithout) B.pre
  have hown : s.vm.findClass RX4 = some m.cls := findClass_of_methodNamed B.named
  have hlk := B.notSynchronized
  have hI : IH D cy h0 (wM cy q A S) s s.heap := hI
  have hG := hI.1
  have hS : va_S nof s.heap s.heap [] := va_S.rf
  have hi4 : ∀ w ∈ wsX40, w ∈ wsX4_trustedWithout := by decide +kernel
  have hl := lv_entry ([.ref (q 0), .int lo]) (n := 4) (Nat.le_of_ble_eq_true rfl)
  rw [lg_entry_eq]
  generalize (lg_sl ([.ref (q 0), .int lo]) ++ List.replicate (4 - (lg_sl ([.ref (q 0), .int lo])).length) Slot.unset).toArray = ls at hl ⊢
  have hl : lv_has ls 4 [(0, .ref (q 0)), (1, .int lo)] := hl
  refine lv_iconst (v := 0) hx hb dX4_trustedWithout_0 (by decide) ?_
  refine lv_istore_n (lv' := [(2, .int 0), (0, .ref (q 0)), (1, .int lo)]) hx hb dX4_trustedWithout_1 rfl hl (by decide) rfl (fun ls hl => ?_)
  refine lv_iconst (v := 0) hx hb dX4_trustedWithout_2 (by decide) ?_
  refine lv_istore_n (lv' := [(3, .int 0), (2, .int 0), (0, .ref (q 0)), (1, .int lo)]) hx hb dX4_trustedWithout_3 rfl hl (by decide) rfl (fun ls hl => ?_)
  suffices KL4 : ∀ (n9 k : Nat), k + n9 = nb → ∀ (H : Heap) (locs : List Loc), IH D cy h0 (wM cy q A S) s H → va_S (nof) s.heap H locs → ∀ ls : Array Slot, lv_has ls 4 [(3, .int (nI k)), (2, .int (twF A S lo nk k)), (0, .ref (q 0)), (1, .int lo)] → W p l e (headSpec wsX4_trustedWithout (rmO 6 113)).room s m ([.ref (q 0), .int lo]).toArray below meth c H locs 0 0 (MQ below (roI (twF A S lo nk nb)) ([.ref (q 0), .int lo]).toArray s 0 0 nof) (F0 m 4 ls []) by
    exact KL4 nb 0 (by omega) _ _ hI hS ls ((lv_sub hl [0, 1, 2, 3] rfl))
  intro n9
  induction n9 with
  | zero =>
    intro k hk H locs hI hS ls hl
    have hk : nb = k := by omega
    subst hk
    refine lv_iload_n hx hb dX4_trustedWithout_4 rfl (lv_at hl 0 rfl) ?_
    refine lv_aload_n hx hb dX4_trustedWithout_5 rfl (lv_at hl 2 rfl) ?_
    refine r_get (C := RX4) (T := TX4) (N := 23) (k := 7) (q0 := 0) (v := .int (S 1)) hx hb hts hi4 hown hI rfl rfl (by decide) (hts (.fieldLink RX4 80 "BuildlotsModel" "builds" "I") (List.mem_of_getElem? (i := 1) rfl)) rfl rfl dX4_trustedWithout_6 ?_
    refine lv_icmp_ge (tgt := 33) hx hb dX4_trustedWithout_9 (by decide) (fun c9_1 => ?_) (fun c9_1 => ?_)
    rotate_left
    · exact absurd (i_ge rfl hcb (Nat.le_refl _) (by omega)) c9_1
    refine lv_iload_n hx hb dX4_trustedWithout_33 rfl (lv_at hl 1 rfl) ?_
    exact end_roi hx hb hr rfl hS dX4_trustedWithout_34 hlk
  | succ n9 ih4 =>
    intro k hk H locs hI hS ls hl
    have hk4 : k < nb := by omega
    refine lv_iload_n hx hb dX4_trustedWithout_4 rfl (lv_at hl 0 rfl) ?_
    refine lv_aload_n hx hb dX4_trustedWithout_5 rfl (lv_at hl 2 rfl) ?_
    refine r_get (C := RX4) (T := TX4) (N := 23) (k := 7) (q0 := 0) (v := .int (S 1)) hx hb hts hi4 hown hI rfl rfl (by decide) (hts (.fieldLink RX4 80 "BuildlotsModel" "builds" "I") (List.mem_of_getElem? (i := 1) rfl)) rfl rfl dX4_trustedWithout_6 ?_
    refine lv_icmp_ge (tgt := 33) hx hb dX4_trustedWithout_9 (by decide) (fun c9_2 => ?_) (fun c9_2 => ?_)
    · exact absurd c9_2 (i_nge rfl hcb (by omega) (by omega))
    refine lv_aload_n hx hb dX4_trustedWithout_12 rfl (lv_at hl 2 rfl) ?_
    refine lv_iload_n hx hb dX4_trustedWithout_13 rfl (lv_at hl 0 rfl) ?_
    refine lv_iload_n hx hb dX4_trustedWithout_14 rfl (lv_at hl 3 rfl) ?_
    refine ro_i (va_runV (As := [.int (nI k), .int lo]) (rest := []) ⟨hx, hb, hml, hown, hts⟩ (c_X4_isEnough l D cy h0 q A S (nI k) lo nk hnk hck k (by omega) rfl (htn k (by omega))) (cwV 2 hts gX4_trustedWithout_X4_isEnough rfl rfl rfl (by decide +kernel) ⟨Nat.le_of_ble_eq_true rfl, Nat.le_of_ble_eq_true rfl⟩) (hI.preV (k0 := 0) rfl rfl) rfl rfl hl.1 rfl (lv_room (Nat.le_of_ble_eq_true rfl)) dX4_trustedWithout_15 ⟨Nat.le_of_ble_eq_true rfl, Nat.le_of_ble_eq_true rfl⟩) hI hS (fun H locs hI hS => ?_)
    refine r_ifeq_b (tgt := 27) hx hb dX4_trustedWithout_18 (by decide) (fun c18_3 => ?_) (fun c18_3 => ?_)
    · refine lv_iinc (v := nI (k + 1)) (lv' := [(3, .int (nI (k + 1))), (2, .int (twF A S lo nk k)), (0, .ref (q 0)), (1, .int lo)]) hx hb dX4_trustedWithout_27 hl (k := 0) rfl (nI_1 k) (by decide) rfl (fun ls hl => ?_)
      refine lv_goto (tgt := 4) hx hb dX4_trustedWithout_30 (by decide) ?_
      rw [show (twF A S lo nk k) = (twF A S lo nk (k + 1)) from (by first | (simp only [twF, c9_2, c18_3, ↓reduceIte, Bool.false_eq_true, reduceCtorEq]; done) | simp [twF, c9_2, c18_3])] at hl
      exact ih4 (k + 1) (by omega) _ _ hI hS ls (lv_sub hl [0, 1, 2, 3] rfl)
    · refine lv_iload_n hx hb dX4_trustedWithout_21 rfl (lv_at hl 1 rfl) ?_
      refine lv_iconst (v := 1) hx hb dX4_trustedWithout_22 (by decide) ?_
      refine lv_iload_n hx hb dX4_trustedWithout_23 rfl (lv_at hl 0 rfl) ?_
      refine lv_ishl hx hb dX4_trustedWithout_24 ?_
      refine lv_ior hx hb dX4_trustedWithout_25 ?_
      refine lv_istore_n (lv' := [(2, .int ((twF A S lo nk k) ||| ((1 : Int32) <<< ((nI k) &&& 31)))), (3, .int (nI k)), (0, .ref (q 0)), (1, .int lo)]) hx hb dX4_trustedWithout_26 rfl hl (by decide) rfl (fun ls hl => ?_)
      refine lv_iinc (v := nI (k + 1)) (lv' := [(3, .int (nI (k + 1))), (2, .int ((twF A S lo nk k) ||| ((1 : Int32) <<< ((nI k) &&& 31)))), (0, .ref (q 0)), (1, .int lo)]) hx hb dX4_trustedWithout_27 hl (k := 1) rfl (nI_1 k) (by decide) rfl (fun ls hl => ?_)
      refine lv_goto (tgt := 4) hx hb dX4_trustedWithout_30 (by decide) ?_
      rw [show ((twF A S lo nk k) ||| ((1 : Int32) <<< ((nI k) &&& 31))) = (twF A S lo nk (k + 1)) from (by first | (simp only [twF, c9_2, c18_3, ↓reduceIte, Bool.false_eq_true, reduceCtorEq]; done) | simp [twF, c9_2, c18_3])] at hl
      exact ih4 (k + 1) (by omega) _ _ hI hS ls (lv_sub hl [0, 1, 2, 3] rfl)

set_option maxHeartbeats 4000000 in
set_option maxRecDepth 100000 in
theorem c_X4_trusted (l : Launch) (D : va_G) (cy : Nat → ClassId) (h0 : Nat) (q : Nat → Nat) (A : Nat → Nat → Int32) (S : Nat → Int32) (nk : Nat) (hnk : nk ≤ 8) (hck : S 0 = nI nk) (nb : Nat) (hnb : nb ≤ 24) (hcb : S 1 = nI nb) (htn : ∀ b, b < nb → ∃ t, t < 5 ∧ A 6 b = nI t) : Met l yX4_trusted wsX4_trusted (rmO 7 136) (va_Pc [.ref (q 0)] (pI D cy h0 (wM cy q A S))) (roI (twF A S (-1) nk nb)) 0 0 nof := by
  refine Met.ofW (cc := cX4_trusted) (maxL := 1) (ret := (some .int)) (by decide) rfl ?_
  intro p e s m args below meth c s₁ B hml hv
  obtain ⟨rfl, hI⟩ := hv
  have hx := B.exec
  have hb := B.bytes
  have hr := B.returns
  have hts := atoms_spec (ws := wsX4_trusted) B.pre
  have hown : s.vm.findClass RX4 = some m.cls := findClass_of_methodNamed B.named
  have hlk := B.notSynchronized
  have hI : IH D cy h0 (wM cy q A S) s s.heap := hI
  have hG := hI.1
  have hS : va_S nof s.heap s.heap [] := va_S.rf
  have hi4 : ∀ w ∈ wsX40, w ∈ wsX4_trusted := by decide +kernel
  have hl := lv_entry ([.ref (q 0)]) (n := 1) (Nat.le_of_ble_eq_true rfl)
  rw [lg_entry_eq]
  generalize (lg_sl ([.ref (q 0)]) ++ List.replicate (1 - (lg_sl ([.ref (q 0)])).length) Slot.unset).toArray = ls at hl ⊢
  have hl : lv_has ls 1 [(0, .ref (q 0))] := hl
  refine lv_aload_n hx hb dX4_trusted_0 rfl (lv_at hl 0 rfl) ?_
  refine lv_iconst (v := (-1)) hx hb dX4_trusted_1 (by decide) ?_
  refine ro_i (va_runV (As := [.int (-1)]) (rest := []) ⟨hx, hb, hml, hown, hts⟩ (c_X4_trustedWithout l D cy h0 q A S (-1) nk hnk hck nb hnb hcb htn) (cwV 1 hts gX4_trusted_X4_trustedWithout rfl rfl rfl (by decide +kernel) ⟨Nat.le_of_ble_eq_true rfl, Nat.le_of_ble_eq_true rfl⟩) (hI.preV (k0 := 0) rfl rfl) rfl rfl hl.1 rfl (lv_room (Nat.le_of_ble_eq_true rfl)) dX4_trusted_2 ⟨Nat.le_of_ble_eq_true rfl, Nat.le_of_ble_eq_true rfl⟩) hI hS (fun H locs hI hS => ?_)
  exact end_roi hx hb hr rfl hS dX4_trusted_5 hlk

set_option maxHeartbeats 4000000 in
set_option maxRecDepth 100000 in
theorem c_X4_isGone (l : Launch) (D : va_G) (cy : Nat → ClassId) (h0 : Nat) (q : Nat → Nat) (A : Nat → Nat → Int32) (S : Nat → Int32) (x : Int32) (j : Nat) (hj : j < 24) (hkx : x = nI j) : Met l yX4_isGone wsX4_isGone (rmO 1 0) (va_Pc [.ref (q 0), .int x] (pI D cy h0 (wM cy q A S))) (roI (bI (gnB A j))) 0 0 nof := by
  refine Met.ofW (cc := cX4_isGone) (maxL := 3) (ret := (some .boolean)) (by decide) rfl ?_
  intro p e s m args below meth c s₁ B hml hv
  obtain ⟨rfl, hI⟩ := hv
  have hx := B.exec
  have hb := B.bytes
  have hr := B.returns
  have hts := atoms_spec (ws := wsX4_isGone) B.pre
  have hown : s.vm.findClass RX4 = some m.cls := findClass_of_methodNamed B.named
  have hlk := B.notSynchronized
  have hI : IH D cy h0 (wM cy q A S) s s.heap := hI
  have hG := hI.1
  have hS : va_S nof s.heap s.heap [] := va_S.rf
  have hi4 : ∀ w ∈ wsX40, w ∈ wsX4_isGone := by decide +kernel
  have hl := lv_entry ([.ref (q 0), .int x]) (n := 3) (Nat.le_of_ble_eq_true rfl)
  rw [lg_entry_eq]
  generalize (lg_sl ([.ref (q 0), .int x]) ++ List.replicate (3 - (lg_sl ([.ref (q 0), .int x])).length) Slot.unset).toArray = ls at hl ⊢
  have hl : lv_has ls 3 [(0, .ref (q 0)), (1, .int x)] := hl
  refine lv_aload_n hx hb dX4_isGone_0 rfl (lv_at hl 0 rfl) ?_
  refine r_get (C := RX4) (T := TX4) (N := 23) (k := 13) (q0 := 0) (v := .ref (q 12)) hx hb hts hi4 hown hI rfl rfl (by decide) (hts (.fieldLink RX4 44 "BuildlotsModel" "areMarked" "[Z") (List.mem_of_getElem? (i := 1) rfl)) rfl rfl dX4_isGone_1 ?_
  refine lv_iload_n hx hb dX4_isGone_4 rfl (lv_at hl 1 rfl) ?_
  refine r_zald (q0 := 12) (j := j) (n := 24) (f := (A 11)) hx hb hI rfl hkx hj (by decide) dX4_isGone_5 ?_
  refine lv_if_eq (tgt := 11) hx hb dX4_isGone_6 (by decide) (fun c6_1 => ?_) (fun c6_1 => ?_)
  · refine lv_iconst (v := 0) hx hb dX4_isGone_11 (by decide) ?_
    refine lv_istore_n (lv' := [(2, .int 0), (0, .ref (q 0)), (1, .int x)]) hx hb dX4_isGone_12 rfl hl (by decide) rfl (fun ls hl => ?_)
    suffices KL13 : ∀ (n9 k : Nat), k + n9 = j → (anyF (gnP A j) k = false) → ∀ (H : Heap) (locs : List Loc), IH D cy h0 (wM cy q A S) s H → va_S (nof) s.heap H locs → ∀ ls : Array Slot, lv_has ls 3 [(2, .int (nI k)), (0, .ref (q 0)), (1, .int x)] → W p l e (headSpec wsX4_isGone (rmO 1 0)).room s m ([.ref (q 0), .int x]).toArray below meth c H locs 0 0 (MQ below (roI (bI (gnB A j))) ([.ref (q 0), .int x]).toArray s 0 0 nof) (F0 m 13 ls []) by
      exact KL13 j 0 (by omega) rfl _ _ hI hS ls ((lv_sub hl [0, 1, 2] rfl))
    intro n9
    induction n9 with
    | zero =>
      intro k hk hv H locs hI hS ls hl
      have hk : j = k := by omega
      subst hk
      refine lv_iload_n hx hb dX4_isGone_13 rfl (lv_at hl 0 rfl) ?_
      refine lv_iload_n hx hb dX4_isGone_14 rfl (lv_at hl 2 rfl) ?_
      refine lv_icmp_ge (tgt := 49) hx hb dX4_isGone_15 (by decide) (fun c15_2 => ?_) (fun c15_2 => ?_)
      rotate_left
      · exact absurd (i_ge rfl hkx (Nat.le_refl _) (by omega)) c15_2
      refine lv_iconst (v := 0) hx hb dX4_isGone_49 (by decide) ?_
      exact end_roz hx hb hr rfl (by simp [gnB, bI, hv, c6_1, c15_2, ]) hS dX4_isGone_50 hlk
    | succ n9 ih13 =>
      intro k hk hv H locs hI hS ls hl
      have hk13 : k < j := by omega
      refine lv_iload_n hx hb dX4_isGone_13 rfl (lv_at hl 0 rfl) ?_
      refine lv_iload_n hx hb dX4_isGone_14 rfl (lv_at hl 2 rfl) ?_
      refine lv_icmp_ge (tgt := 49) hx hb dX4_isGone_15 (by decide) (fun c15_3 => ?_) (fun c15_3 => ?_)
      · exact absurd c15_3 (i_nge rfl hkx (by omega) (by omega))
      refine lv_aload_n hx hb dX4_isGone_18 rfl (lv_at hl 1 rfl) ?_
      refine r_get (C := RX4) (T := TX4) (N := 23) (k := 13) (q0 := 0) (v := .ref (q 12)) hx hb hts hi4 hown hI rfl rfl (by decide) (hts (.fieldLink RX4 44 "BuildlotsModel" "areMarked" "[Z") (List.mem_of_getElem? (i := 1) rfl)) rfl rfl dX4_isGone_19 ?_
      refine lv_iload_n hx hb dX4_isGone_22 rfl (lv_at hl 0 rfl) ?_
      refine r_zald (q0 := 12) (j := k) (n := 24) (f := (A 11)) hx hb hI rfl rfl (by omega) (by decide) dX4_isGone_23 ?_
      refine lv_if_eq (tgt := 43) hx hb dX4_isGone_24 (by decide) (fun c24_4 => ?_) (fun c24_4 => ?_)
      · refine lv_iinc (v := nI (k + 1)) (lv' := [(2, .int (nI (k + 1))), (0, .ref (q 0)), (1, .int x)]) hx hb dX4_isGone_43 hl (k := 0) rfl (nI_1 k) (by decide) rfl (fun ls hl => ?_)
        refine lv_goto (tgt := 13) hx hb dX4_isGone_46 (by decide) ?_
        exact ih13 (k + 1) (by omega) (any_s hv (by simp [gnP, c6_1, c15_3, c24_4, ])) _ _ hI hS ls (lv_sub hl [0, 1, 2] rfl)
      · refine lv_aload_n hx hb dX4_isGone_27 rfl (lv_at hl 1 rfl) ?_
        refine r_get (C := RX4) (T := TX4) (N := 23) (k := 10) (q0 := 0) (v := .ref (q 9)) hx hb hts hi4 hown hI rfl rfl (by decide) (hts (.fieldLink RX4 35 "BuildlotsModel" "used" "[I") (List.mem_of_getElem? (i := 2) rfl)) rfl rfl dX4_isGone_28 ?_
        refine lv_iload_n hx hb dX4_isGone_31 rfl (lv_at hl 2 rfl) ?_
        refine r_iald (q0 := 9) (j := j) (n := 24) (f := (A 8)) hx hb hI rfl hkx hj (by decide) dX4_isGone_32 ?_
        refine lv_iload_n hx hb dX4_isGone_33 rfl (lv_at hl 0 rfl) ?_
        refine lv_ishr hx hb dX4_isGone_34 ?_
        refine lv_iconst (v := 1) hx hb dX4_isGone_35 (by decide) ?_
        refine lv_iand hx hb dX4_isGone_36 ?_
        refine lv_iconst (v := 1) hx hb dX4_isGone_37 (by decide) ?_
        refine lv_icmp_ne (tgt := 43) hx hb dX4_isGone_38 (by decide) (fun c38_5 => ?_) (fun c38_5 => ?_)
        · refine lv_iinc (v := nI (k + 1)) (lv' := [(2, .int (nI (k + 1))), (0, .ref (q 0)), (1, .int x)]) hx hb dX4_isGone_43 hl (k := 0) rfl (nI_1 k) (by decide) rfl (fun ls hl => ?_)
          refine lv_goto (tgt := 13) hx hb dX4_isGone_46 (by decide) ?_
          exact ih13 (k + 1) (by omega) (any_s hv (by simp [gnP, c6_1, c15_3, c24_4, c38_5, ])) _ _ hI hS ls (lv_sub hl [0, 1, 2] rfl)
        · refine lv_iconst (v := 1) hx hb dX4_isGone_41 (by decide) ?_
          exact end_roz hx hb hr rfl (by rw [show gnB A j = true from by simp [gnB, any_t (p := gnP A j) (k := k) (by simp [gnP, c6_1, c15_3, c24_4, c38_5, ]) (by omega)]]; rfl) hS dX4_isGone_42 hlk
  · refine lv_iconst (v := 1) hx hb dX4_isGone_9 (by decide) ?_
    exact end_roz hx hb hr rfl (by simp [gnB, bI, c6_1, ]) hS dX4_isGone_10 hlk

set_option maxHeartbeats 4000000 in
set_option maxRecDepth 100000 in
theorem c_X4_recalled (l : Launch) (D : va_G) (cy : Nat → ClassId) (h0 : Nat) (q : Nat → Nat) (A : Nat → Nat → Int32) (S : Nat → Int32) (nb : Nat) (hnb : nb ≤ 24) (hcb : S 1 = nI nb) : Met l yX4_recalled wsX4_recalled (rmO 2 22) (va_Pc [.ref (q 0)] (pI D cy h0 (wM cy q A S))) (roI (rmF A nb)) 0 0 nof := by
  refine Met.ofW (cc := cX4_recalled) (maxL := 3) (ret := (some .int)) (by decide) rfl ?_
  intro p e s m args below meth c s₁ B hml hv
  obtain ⟨rfl, hI⟩ := hv
  have hx := B.exec
  have hb := B.bytes
  have hr := B.returns
  have hts := atoms_spec (ws := wsX4_recalled) B.pre
  have hown : s.vm.findClass RX4 = some m.cls := findClass_of_methodNamed B.named
  have hlk := B.notSynchronized
  have hI : IH D cy h0 (wM cy q A S) s s.heap := hI
  have hG := hI.1
  have hS : va_S nof s.heap s.heap [] := va_S.rf
  have hi4 : ∀ w ∈ wsX40, w ∈ wsX4_recalled := by decide +kernel
  have hl := lv_entry ([.ref (q 0)]) (n := 3) (Nat.le_of_ble_eq_true rfl)
  rw [lg_entry_eq]
  generalize (lg_sl ([.ref (q 0)]) ++ List.replicate (3 - (lg_sl ([.ref (q 0)])).length) Slot.unset).toArray = ls at hl ⊢
  have hl : lv_has ls 3 [(0, .ref (q 0))] := hl
  refine lv_iconst (v := 0) hx hb dX4_recalled_0 (by decide) ?_
  refine lv_istore_n (lv' := [(1, .int 0), (0, .ref (q 0))]) hx hb dX4_recalled_1 rfl hl (by decide) rfl (fun ls hl => ?_)
  refine lv_iconst (v := 0) hx hb dX4_recalled_2 (by decide) ?_
  refine lv_istore_n (lv' := [(2, .int 0), (1, .int 0), (0, .ref (q 0))]) hx hb dX4_recalled_3 rfl hl (by decide) rfl (fun ls hl => ?_)
  suffices KL4 : ∀ (n9 k : Nat), k + n9 = nb → ∀ (H : Heap) (locs : List Loc), IH D cy h0 (wM cy q A S) s H → va_S (nof) s.heap H locs → ∀ ls : Array Slot, lv_has ls 3 [(2, .int (nI k)), (1, .int (rmF A k)), (0, .ref (q 0))] → W p l e (headSpec wsX4_recalled (rmO 2 22)).room s m ([.ref (q 0)]).toArray below meth c H locs 0 0 (MQ below (roI (rmF A nb)) ([.ref (q 0)]).toArray s 0 0 nof) (F0 m 4 ls []) by
    exact KL4 nb 0 (by omega) _ _ hI hS ls ((lv_sub hl [0, 1, 2] rfl))
  intro n9
  induction n9 with
  | zero =>
    intro k hk H locs hI hS ls hl
    have hk : nb = k := by omega
    subst hk
    refine lv_iload_n hx hb dX4_recalled_4 rfl (lv_at hl 0 rfl) ?_
    refine lv_aload_n hx hb dX4_recalled_5 rfl (lv_at hl 2 rfl) ?_
    refine r_get (C := RX4) (T := TX4) (N := 23) (k := 7) (q0 := 0) (v := .int (S 1)) hx hb hts hi4 hown hI rfl rfl (by decide) (hts (.fieldLink RX4 80 "BuildlotsModel" "builds" "I") (List.mem_of_getElem? (i := 1) rfl)) rfl rfl dX4_recalled_6 ?_
    refine lv_icmp_ge (tgt := 32) hx hb dX4_recalled_9 (by decide) (fun c9_1 => ?_) (fun c9_1 => ?_)
    rotate_left
    · exact absurd (i_ge rfl hcb (Nat.le_refl _) (by omega)) c9_1
    refine lv_iload_n hx hb dX4_recalled_32 rfl (lv_at hl 1 rfl) ?_
    exact end_roi hx hb hr rfl hS dX4_recalled_33 hlk
  | succ n9 ih4 =>
    intro k hk H locs hI hS ls hl
    have hk4 : k < nb := by omega
    refine lv_iload_n hx hb dX4_recalled_4 rfl (lv_at hl 0 rfl) ?_
    refine lv_aload_n hx hb dX4_recalled_5 rfl (lv_at hl 2 rfl) ?_
    refine r_get (C := RX4) (T := TX4) (N := 23) (k := 7) (q0 := 0) (v := .int (S 1)) hx hb hts hi4 hown hI rfl rfl (by decide) (hts (.fieldLink RX4 80 "BuildlotsModel" "builds" "I") (List.mem_of_getElem? (i := 1) rfl)) rfl rfl dX4_recalled_6 ?_
    refine lv_icmp_ge (tgt := 32) hx hb dX4_recalled_9 (by decide) (fun c9_2 => ?_) (fun c9_2 => ?_)
    · exact absurd c9_2 (i_nge rfl hcb (by omega) (by omega))
    refine lv_aload_n hx hb dX4_recalled_12 rfl (lv_at hl 2 rfl) ?_
    refine lv_iload_n hx hb dX4_recalled_13 rfl (lv_at hl 0 rfl) ?_
    refine ro_i (va_runV (As := [.int (nI k)]) (rest := []) ⟨hx, hb, hml, hown, hts⟩ (c_X4_isGone l D cy h0 q A S (nI k) k (by omega) rfl) (cwV 1 hts gX4_recalled_X4_isGone rfl rfl rfl (by decide +kernel) ⟨Nat.le_of_ble_eq_true rfl, Nat.le_of_ble_eq_true rfl⟩) (hI.preV (k0 := 0) rfl rfl) rfl rfl hl.1 rfl (lv_room (Nat.le_of_ble_eq_true rfl)) dX4_recalled_14 ⟨Nat.le_of_ble_eq_true rfl, Nat.le_of_ble_eq_true rfl⟩) hI hS (fun H locs hI hS => ?_)
    refine r_ifeq_b (tgt := 26) hx hb dX4_recalled_17 (by decide) (fun c17_3 => ?_) (fun c17_3 => ?_)
    · refine lv_iinc (v := nI (k + 1)) (lv' := [(2, .int (nI (k + 1))), (1, .int (rmF A k)), (0, .ref (q 0))]) hx hb dX4_recalled_26 hl (k := 0) rfl (nI_1 k) (by decide) rfl (fun ls hl => ?_)
      refine lv_goto (tgt := 4) hx hb dX4_recalled_29 (by decide) ?_
      rw [show (rmF A k) = (rmF A (k + 1)) from (by first | (simp only [rmF, c9_2, c17_3, ↓reduceIte, Bool.false_eq_true, reduceCtorEq]; done) | simp [rmF, c9_2, c17_3])] at hl
      exact ih4 (k + 1) (by omega) _ _ hI hS ls (lv_sub hl [0, 1, 2] rfl)
    · refine lv_iload_n hx hb dX4_recalled_20 rfl (lv_at hl 1 rfl) ?_
      refine lv_iconst (v := 1) hx hb dX4_recalled_21 (by decide) ?_
      refine lv_iload_n hx hb dX4_recalled_22 rfl (lv_at hl 0 rfl) ?_
      refine lv_ishl hx hb dX4_recalled_23 ?_
      refine lv_ior hx hb dX4_recalled_24 ?_
      refine lv_istore_n (lv' := [(1, .int ((rmF A k) ||| ((1 : Int32) <<< ((nI k) &&& 31)))), (2, .int (nI k)), (0, .ref (q 0))]) hx hb dX4_recalled_25 rfl hl (by decide) rfl (fun ls hl => ?_)
      refine lv_iinc (v := nI (k + 1)) (lv' := [(2, .int (nI (k + 1))), (1, .int ((rmF A k) ||| ((1 : Int32) <<< ((nI k) &&& 31)))), (0, .ref (q 0))]) hx hb dX4_recalled_26 hl (k := 1) rfl (nI_1 k) (by decide) rfl (fun ls hl => ?_)
      refine lv_goto (tgt := 4) hx hb dX4_recalled_29 (by decide) ?_
      rw [show ((rmF A k) ||| ((1 : Int32) <<< ((nI k) &&& 31))) = (rmF A (k + 1)) from (by first | (simp only [rmF, c9_2, c17_3, ↓reduceIte, Bool.false_eq_true, reduceCtorEq]; done) | simp [rmF, c9_2, c17_3])] at hl
      exact ih4 (k + 1) (by omega) _ _ hI hS ls (lv_sub hl [0, 1, 2] rfl)

set_option maxHeartbeats 4000000 in
set_option maxRecDepth 100000 in
theorem c_X4_areRecalled (l : Launch) (D : va_G) (cy : Nat → ClassId) (h0 : Nat) (q : Nat → Nat) (A : Nat → Nat → Int32) (S : Nat → Int32) (x : Int32) (nb : Nat) (hnb : nb ≤ 24) (hcb : S 1 = nI nb) : Met l yX4_areRecalled wsX4_areRecalled (rmO 2 22) (va_Pc [.ref (q 0), .int x] (pI D cy h0 (wM cy q A S))) (roI (bI (anyF (arP A x) nb))) 0 0 nof := by
  refine Met.ofW (cc := cX4_areRecalled) (maxL := 3) (ret := (some .boolean)) (by decide) rfl ?_
  intro p e s m args below meth c s₁ B hml hv
  obtain ⟨rfl, hI⟩ := hv
  have hx := B.exec
  have hb := B.bytes
  have hr := B.returns
  have hts := atoms_spec (ws := wsX4_areRecalled) B.pre
  have hown : s.vm.findClass RX4 = some m.cls := findClass_of_methodNamed B.named
  have hlk := B.notSynchronized
  have hI : IH D cy h0 (wM cy q A S) s s.heap := hI
  have hG := hI.1
  have hS : va_S nof s.heap s.heap [] := va_S.rf
  have hi4 : ∀ w ∈ wsX40, w ∈ wsX4_areRecalled := by decide +kernel
  have hl := lv_entry ([.ref (q 0), .int x]) (n := 3) (Nat.le_of_ble_eq_true rfl)
  rw [lg_entry_eq]
  generalize (lg_sl ([.ref (q 0), .int x]) ++ List.replicate (3 - (lg_sl ([.ref (q 0), .int x])).length) Slot.unset).toArray = ls at hl ⊢
  have hl : lv_has ls 3 [(0, .ref (q 0)), (1, .int x)] := hl
  refine lv_iconst (v := 0) hx hb dX4_areRecalled_0 (by decide) ?_
  refine lv_istore_n (lv' := [(2, .int 0), (0, .ref (q 0)), (1, .int x)]) hx hb dX4_areRecalled_1 rfl hl (by decide) rfl (fun ls hl => ?_)
  suffices KL2 : ∀ (n9 k : Nat), k + n9 = nb → (anyF (arP A x) k = false) → ∀ (H : Heap) (locs : List Loc), IH D cy h0 (wM cy q A S) s H → va_S (nof) s.heap H locs → ∀ ls : Array Slot, lv_has ls 3 [(2, .int (nI k)), (0, .ref (q 0)), (1, .int x)] → W p l e (headSpec wsX4_areRecalled (rmO 2 22)).room s m ([.ref (q 0), .int x]).toArray below meth c H locs 0 0 (MQ below (roI (bI (anyF (arP A x) nb))) ([.ref (q 0), .int x]).toArray s 0 0 nof) (F0 m 2 ls []) by
    exact KL2 nb 0 (by omega) rfl _ _ hI hS ls ((lv_sub hl [0, 1, 2] rfl))
  intro n9
  induction n9 with
  | zero =>
    intro k hk hv H locs hI hS ls hl
    have hk : nb = k := by omega
    subst hk
    refine lv_iload_n hx hb dX4_areRecalled_2 rfl (lv_at hl 0 rfl) ?_
    refine lv_aload_n hx hb dX4_areRecalled_3 rfl (lv_at hl 1 rfl) ?_
    refine r_get (C := RX4) (T := TX4) (N := 23) (k := 7) (q0 := 0) (v := .int (S 1)) hx hb hts hi4 hown hI rfl rfl (by decide) (hts (.fieldLink RX4 80 "BuildlotsModel" "builds" "I") (List.mem_of_getElem? (i := 1) rfl)) rfl rfl dX4_areRecalled_4 ?_
    refine lv_icmp_ge (tgt := 35) hx hb dX4_areRecalled_7 (by decide) (fun c7_1 => ?_) (fun c7_1 => ?_)
    rotate_left
    · exact absurd (i_ge rfl hcb (Nat.le_refl _) (by omega)) c7_1
    refine lv_iconst (v := 0) hx hb dX4_areRecalled_35 (by decide) ?_
    exact end_roz hx hb hr rfl (by rw [hv]; rfl) hS dX4_areRecalled_36 hlk
  | succ n9 ih2 =>
    intro k hk hv H locs hI hS ls hl
    have hk2 : k < nb := by omega
    refine lv_iload_n hx hb dX4_areRecalled_2 rfl (lv_at hl 0 rfl) ?_
    refine lv_aload_n hx hb dX4_areRecalled_3 rfl (lv_at hl 1 rfl) ?_
    refine r_get (C := RX4) (T := TX4) (N := 23) (k := 7) (q0 := 0) (v := .int (S 1)) hx hb hts hi4 hown hI rfl rfl (by decide) (hts (.fieldLink RX4 80 "BuildlotsModel" "builds" "I") (List.mem_of_getElem? (i := 1) rfl)) rfl rfl dX4_areRecalled_4 ?_
    refine lv_icmp_ge (tgt := 35) hx hb dX4_areRecalled_7 (by decide) (fun c7_2 => ?_) (fun c7_2 => ?_)
    · exact absurd c7_2 (i_nge rfl hcb (by omega) (by omega))
    refine lv_iload_n hx hb dX4_areRecalled_10 rfl (lv_at hl 2 rfl) ?_
    refine lv_iload_n hx hb dX4_areRecalled_11 rfl (lv_at hl 0 rfl) ?_
    refine lv_ishr hx hb dX4_areRecalled_12 ?_
    refine lv_iconst (v := 1) hx hb dX4_areRecalled_13 (by decide) ?_
    refine lv_iand hx hb dX4_areRecalled_14 ?_
    refine lv_iconst (v := 1) hx hb dX4_areRecalled_15 (by decide) ?_
    refine lv_icmp_ne (tgt := 29) hx hb dX4_areRecalled_16 (by decide) (fun c16_3 => ?_) (fun c16_3 => ?_)
    · refine lv_iinc (v := nI (k + 1)) (lv' := [(2, .int (nI (k + 1))), (0, .ref (q 0)), (1, .int x)]) hx hb dX4_areRecalled_29 hl (k := 0) rfl (nI_1 k) (by decide) rfl (fun ls hl => ?_)
      refine lv_goto (tgt := 2) hx hb dX4_areRecalled_32 (by decide) ?_
      exact ih2 (k + 1) (by omega) (any_s hv (by simp [arP, c7_2, c16_3, ])) _ _ hI hS ls (lv_sub hl [0, 1, 2] rfl)
    · refine lv_aload_n hx hb dX4_areRecalled_19 rfl (lv_at hl 1 rfl) ?_
      refine lv_iload_n hx hb dX4_areRecalled_20 rfl (lv_at hl 0 rfl) ?_
      refine ro_i (va_runV (As := [.int (nI k)]) (rest := []) ⟨hx, hb, hml, hown, hts⟩ (c_X4_isGone l D cy h0 q A S (nI k) k (by omega) rfl) (cwV 1 hts gX4_areRecalled_X4_isGone rfl rfl rfl (by decide +kernel) ⟨Nat.le_of_ble_eq_true rfl, Nat.le_of_ble_eq_true rfl⟩) (hI.preV (k0 := 0) rfl rfl) rfl rfl hl.1 rfl (lv_room (Nat.le_of_ble_eq_true rfl)) dX4_areRecalled_21 ⟨Nat.le_of_ble_eq_true rfl, Nat.le_of_ble_eq_true rfl⟩) hI hS (fun H locs hI hS => ?_)
      refine r_ifeq_b (tgt := 29) hx hb dX4_areRecalled_24 (by decide) (fun c24_4 => ?_) (fun c24_4 => ?_)
      · refine lv_iinc (v := nI (k + 1)) (lv' := [(2, .int (nI (k + 1))), (0, .ref (q 0)), (1, .int x)]) hx hb dX4_areRecalled_29 hl (k := 0) rfl (nI_1 k) (by decide) rfl (fun ls hl => ?_)
        refine lv_goto (tgt := 2) hx hb dX4_areRecalled_32 (by decide) ?_
        exact ih2 (k + 1) (by omega) (any_s hv (by simp [arP, c7_2, c16_3, c24_4, ])) _ _ hI hS ls (lv_sub hl [0, 1, 2] rfl)
      · refine lv_iconst (v := 1) hx hb dX4_areRecalled_27 (by decide) ?_
        exact end_roz hx hb hr rfl (congrArg bI (any_t (k := k) (by simp [arP, c7_2, c16_3, c24_4, ]) (by omega))).symm hS dX4_areRecalled_28 hlk

set_option maxHeartbeats 4000000 in
set_option maxRecDepth 100000 in
theorem c_X4_greatest (l : Launch) (D : va_G) (cy : Nat → ClassId) (h0 : Nat) (q : Nat → Nat) (A : Nat → Nat → Int32) (S : Nat → Int32) (name : Int32) (x : Int32) (nb : Nat) (hnb : nb ≤ 24) (hcb : S 1 = nI nb) : Met l yX4_greatest wsX4_greatest (rmO 1 0) (va_Pc [.ref (q 0), .int name, .int x] (pI D cy h0 (wM cy q A S))) (roI (grF (A 6) name x nb)) 0 0 nof := by
  refine Met.ofW (cc := cX4_greatest) (maxL := 5) (ret := (some .int)) (by decide) rfl ?_
  intro p e s m args below meth c s₁ B hml hv
  obtain ⟨rfl, hI⟩ := hv
  have hx := B.exec
  have hb := B.bytes
  have hr := B.returns
  have hts := atoms_spec (ws := wsX4_greatest) B.pre
  have hown : s.vm.findClass RX4 = some m.cls := findClass_of_methodNamed B.named
  have hlk := B.notSynchronized
  have hI : IH D cy h0 (wM cy q A S) s s.heap := hI
  have hG := hI.1
  have hS : va_S nof s.heap s.heap [] := va_S.rf
  have hi4 : ∀ w ∈ wsX40, w ∈ wsX4_greatest := by decide +kernel
  have hl := lv_entry ([.ref (q 0), .int name, .int x]) (n := 5) (Nat.le_of_ble_eq_true rfl)
  rw [lg_entry_eq]
  generalize (lg_sl ([.ref (q 0), .int name, .int x]) ++ List.replicate (5 - (lg_sl ([.ref (q 0), .int name, .int x])).length) Slot.unset).toArray = ls at hl ⊢
  have hl : lv_has ls 5 [(0, .ref (q 0)), (1, .int name), (2, .int x)] := hl
  refine lv_iconst (v := (-1)) hx hb dX4_greatest_0 (by decide) ?_
  refine lv_istore_n (lv' := [(3, .int (-1)), (0, .ref (q 0)), (1, .int name), (2, .int x)]) hx hb dX4_greatest_1 rfl hl (by decide) rfl (fun ls hl => ?_)
  refine lv_iconst (v := 0) hx hb dX4_greatest_2 (by decide) ?_
  refine lv_istore (lv' := [(4, .int 0), (3, .int (-1)), (0, .ref (q 0)), (1, .int name), (2, .int x)]) hx hb dX4_greatest_3 hl (by decide) rfl (fun ls hl => ?_)
  suffices KL5 : ∀ (n9 k : Nat), k + n9 = nb → ∀ (H : Heap) (locs : List Loc), IH D cy h0 (wM cy q A S) s H → va_S (nof) s.heap H locs → ∀ ls : Array Slot, lv_has ls 5 [(4, .int (nI k)), (3, .int (grF (A 6) name x k)), (0, .ref (q 0)), (1, .int name), (2, .int x)] → W p l e (headSpec wsX4_greatest (rmO 1 0)).room s m ([.ref (q 0), .int name, .int x]).toArray below meth c H locs 0 0 (MQ below (roI (grF (A 6) name x nb)) ([.ref (q 0), .int name, .int x]).toArray s 0 0 nof) (F0 m 5 ls []) by
    exact KL5 nb 0 (by omega) _ _ hI hS ls ((lv_sub hl [0, 1, 2, 3, 4] rfl))
  intro n9
  induction n9 with
  | zero =>
    intro k hk H locs hI hS ls hl
    have hk : nb = k := by omega
    subst hk
    refine lv_iload hx hb dX4_greatest_5 (lv_at hl 0 rfl) ?_
    refine lv_aload_n hx hb dX4_greatest_7 rfl (lv_at hl 2 rfl) ?_
    refine r_get (C := RX4) (T := TX4) (N := 23) (k := 7) (q0 := 0) (v := .int (S 1)) hx hb hts hi4 hown hI rfl rfl (by decide) (hts (.fieldLink RX4 80 "BuildlotsModel" "builds" "I") (List.mem_of_getElem? (i := 1) rfl)) rfl rfl dX4_greatest_8 ?_
    refine lv_icmp_ge (tgt := 44) hx hb dX4_greatest_11 (by decide) (fun c11_1 => ?_) (fun c11_1 => ?_)
    rotate_left
    · exact absurd (i_ge rfl hcb (Nat.le_refl _) (by omega)) c11_1
    refine lv_iload_n hx hb dX4_greatest_44 rfl (lv_at hl 1 rfl) ?_
    exact end_roi hx hb hr rfl hS dX4_greatest_45 hlk
  | succ n9 ih5 =>
    intro k hk H locs hI hS ls hl
    have hk5 : k < nb := by omega
    refine lv_iload hx hb dX4_greatest_5 (lv_at hl 0 rfl) ?_
    refine lv_aload_n hx hb dX4_greatest_7 rfl (lv_at hl 2 rfl) ?_
    refine r_get (C := RX4) (T := TX4) (N := 23) (k := 7) (q0 := 0) (v := .int (S 1)) hx hb hts hi4 hown hI rfl rfl (by decide) (hts (.fieldLink RX4 80 "BuildlotsModel" "builds" "I") (List.mem_of_getElem? (i := 1) rfl)) rfl rfl dX4_greatest_8 ?_
    refine lv_icmp_ge (tgt := 44) hx hb dX4_greatest_11 (by decide) (fun c11_2 => ?_) (fun c11_2 => ?_)
    · exact absurd c11_2 (i_nge rfl hcb (by omega) (by omega))
    refine lv_aload_n hx hb dX4_greatest_14 rfl (lv_at hl 2 rfl) ?_
    refine r_get (C := RX4) (T := TX4) (N := 23) (k := 8) (q0 := 0) (v := .ref (q 7)) hx hb hts hi4 hown hI rfl rfl (by decide) (hts (.fieldLink RX4 29 "BuildlotsModel" "names" "[I") (List.mem_of_getElem? (i := 2) rfl)) rfl rfl dX4_greatest_15 ?_
    refine lv_iload hx hb dX4_greatest_18 (lv_at hl 0 rfl) ?_
    refine r_iald (q0 := 7) (j := k) (n := 24) (f := (A 6)) hx hb hI rfl rfl (by omega) (by decide) dX4_greatest_20 ?_
    refine lv_iload_n hx hb dX4_greatest_21 rfl (lv_at hl 3 rfl) ?_
    refine lv_icmp_ne (tgt := 38) hx hb dX4_greatest_22 (by decide) (fun c22_3 => ?_) (fun c22_3 => ?_)
    · refine lv_iinc (v := nI (k + 1)) (lv' := [(4, .int (nI (k + 1))), (3, .int (grF (A 6) name x k)), (0, .ref (q 0)), (1, .int name), (2, .int x)]) hx hb dX4_greatest_38 hl (k := 0) rfl (nI_1 k) (by decide) rfl (fun ls hl => ?_)
      refine lv_goto (tgt := 5) hx hb dX4_greatest_41 (by decide) ?_
      rw [show (grF (A 6) name x k) = (grF (A 6) name x (k + 1)) from (by first | (simp only [grF, c11_2, c22_3, ↓reduceIte, Bool.false_eq_true, reduceCtorEq]; done) | simp [grF, c11_2, c22_3])] at hl
      exact ih5 (k + 1) (by omega) _ _ hI hS ls (lv_sub hl [0, 1, 2, 3, 4] rfl)
    · refine lv_iload_n hx hb dX4_greatest_25 rfl (lv_at hl 4 rfl) ?_
      refine lv_iload hx hb dX4_greatest_26 (lv_at hl 0 rfl) ?_
      refine lv_ishr hx hb dX4_greatest_28 ?_
      refine lv_iconst (v := 1) hx hb dX4_greatest_29 (by decide) ?_
      refine lv_iand hx hb dX4_greatest_30 ?_
      refine lv_iconst (v := 1) hx hb dX4_greatest_31 (by decide) ?_
      refine lv_icmp_ne (tgt := 38) hx hb dX4_greatest_32 (by decide) (fun c32_4 => ?_) (fun c32_4 => ?_)
      · refine lv_iinc (v := nI (k + 1)) (lv' := [(4, .int (nI (k + 1))), (3, .int (grF (A 6) name x k)), (0, .ref (q 0)), (1, .int name), (2, .int x)]) hx hb dX4_greatest_38 hl (k := 0) rfl (nI_1 k) (by decide) rfl (fun ls hl => ?_)
        refine lv_goto (tgt := 5) hx hb dX4_greatest_41 (by decide) ?_
        rw [show (grF (A 6) name x k) = (grF (A 6) name x (k + 1)) from (by first | (simp only [grF, c11_2, c22_3, c32_4, ↓reduceIte, Bool.false_eq_true, reduceCtorEq]; done) | simp [grF, c11_2, c22_3, c32_4])] at hl
        exact ih5 (k + 1) (by omega) _ _ hI hS ls (lv_sub hl [0, 1, 2, 3, 4] rfl)
      · refine lv_iload hx hb dX4_greatest_35 (lv_at hl 0 rfl) ?_
        refine lv_istore_n (lv' := [(3, .int (nI k)), (4, .int (nI k)), (0, .ref (q 0)), (1, .int name), (2, .int x)]) hx hb dX4_greatest_37 rfl hl (by decide) rfl (fun ls hl => ?_)
        refine lv_iinc (v := nI (k + 1)) (lv' := [(4, .int (nI (k + 1))), (3, .int (nI k)), (0, .ref (q 0)), (1, .int name), (2, .int x)]) hx hb dX4_greatest_38 hl (k := 1) rfl (nI_1 k) (by decide) rfl (fun ls hl => ?_)
        refine lv_goto (tgt := 5) hx hb dX4_greatest_41 (by decide) ?_
        rw [show (nI k) = (grF (A 6) name x (k + 1)) from (by first | (simp only [grF, c11_2, c22_3, c32_4, ↓reduceIte, Bool.false_eq_true, reduceCtorEq]; done) | simp [grF, c11_2, c22_3, c32_4])] at hl
        exact ih5 (k + 1) (by omega) _ _ hI hS ls (lv_sub hl [0, 1, 2, 3, 4] rfl)

set_option maxHeartbeats 4000000 in
set_option maxRecDepth 100000 in
theorem c_X4_isOld (l : Launch) (D : va_G) (cy : Nat → ClassId) (h0 : Nat) (q : Nat → Nat) (A : Nat → Nat → Int32) (S : Nat → Int32) (x : Int32) (j : Nat) (hj : j < 3) (hkx : x = nI j) : Met l yX4_isOld wsX4_isOld (rmO 1 0) (va_Pc [.ref (q 0), .int x] (pI D cy h0 (wM cy q A S))) (roI (bI (oldB A S j))) 0 0 nof := by
  refine Met.ofW (cc := cX4_isOld) (maxL := 2) (ret := (some .boolean)) (by decide) rfl ?_
  intro p e s m args below meth c s₁ B hml hv
  obtain ⟨rfl, hI⟩ := hv
  have hx := B.exec
  have hb := B.bytes
  have hr := B.returns
  have hts := atoms_spec (ws := wsX4_isOld) B.pre
  have hown : s.vm.findClass RX4 = some m.cls := findClass_of_methodNamed B.named
  have hlk := B.notSynchronized
  have hI : IH D cy h0 (wM cy q A S) s s.heap := hI
  have hG := hI.1
  have hS : va_S nof s.heap s.heap [] := va_S.rf
  have hi4 : ∀ w ∈ wsX40, w ∈ wsX4_isOld := by decide +kernel
  have hl := lv_entry ([.ref (q 0), .int x]) (n := 2) (Nat.le_of_ble_eq_true rfl)
  rw [lg_entry_eq]
  generalize (lg_sl ([.ref (q 0), .int x]) ++ List.replicate (2 - (lg_sl ([.ref (q 0), .int x])).length) Slot.unset).toArray = ls at hl ⊢
  have hl : lv_has ls 2 [(0, .ref (q 0)), (1, .int x)] := hl
  refine lv_aload_n hx hb dX4_isOld_0 rfl (lv_at hl 0 rfl) ?_
  refine r_get (C := RX4) (T := TX4) (N := 23) (k := 19) (q0 := 0) (v := .ref (q 17)) hx hb hts hi4 hown hI rfl rfl (by decide) (hts (.fieldLink RX4 59 "BuildlotsModel" "listedOn" "[I") (List.mem_of_getElem? (i := 1) rfl)) rfl rfl dX4_isOld_1 ?_
  refine lv_iload_n hx hb dX4_isOld_4 rfl (lv_at hl 1 rfl) ?_
  refine r_iald (q0 := 17) (j := j) (n := 3) (f := (A 16)) hx hb hI rfl hkx hj (by decide) dX4_isOld_5 ?_
  refine lv_if_lt (tgt := 27) hx hb dX4_isOld_6 (by decide) (fun c6_1 => ?_) (fun c6_1 => ?_)
  · refine lv_iconst (v := 1) hx hb dX4_isOld_27 (by decide) ?_
    refine lv_goto (tgt := 32) hx hb dX4_isOld_28 (by decide) ?_
    exact end_roz hx hb hr rfl (by simp [oldB, bI, c6_1, ]) hS dX4_isOld_32 hlk
  · refine lv_aload_n hx hb dX4_isOld_9 rfl (lv_at hl 0 rfl) ?_
    refine r_get (C := RX4) (T := TX4) (N := 23) (k := 21) (q0 := 0) (v := .int (S 4)) hx hb hts hi4 hown hI rfl rfl (by decide) (hts (.fieldLink RX4 86 "BuildlotsModel" "day" "I") (List.mem_of_getElem? (i := 2) rfl)) rfl rfl dX4_isOld_10 ?_
    refine lv_aload_n hx hb dX4_isOld_13 rfl (lv_at hl 0 rfl) ?_
    refine r_get (C := RX4) (T := TX4) (N := 23) (k := 19) (q0 := 0) (v := .ref (q 17)) hx hb hts hi4 hown hI rfl rfl (by decide) (hts (.fieldLink RX4 59 "BuildlotsModel" "listedOn" "[I") (List.mem_of_getElem? (i := 1) rfl)) rfl rfl dX4_isOld_14 ?_
    refine lv_iload_n hx hb dX4_isOld_17 rfl (lv_at hl 1 rfl) ?_
    refine r_iald (q0 := 17) (j := j) (n := 3) (f := (A 16)) hx hb hI rfl hkx hj (by decide) dX4_isOld_18 ?_
    refine lv_isub hx hb dX4_isOld_19 ?_
    refine lv_aload_n hx hb dX4_isOld_20 rfl (lv_at hl 0 rfl) ?_
    refine r_get (C := RX4) (T := TX4) (N := 23) (k := 20) (q0 := 0) (v := .int (S 3)) hx hb hts hi4 hown hI rfl rfl (by decide) (hts (.fieldLink RX4 62 "BuildlotsModel" "expiry" "I") (List.mem_of_getElem? (i := 3) rfl)) rfl rfl dX4_isOld_21 ?_
    refine lv_icmp_le (tgt := 31) hx hb dX4_isOld_24 (by decide) (fun c24_2 => ?_) (fun c24_2 => ?_)
    · refine lv_iconst (v := 0) hx hb dX4_isOld_31 (by decide) ?_
      exact end_roz hx hb hr rfl (by simp [oldB, bI, c6_1, c24_2, ]) hS dX4_isOld_32 hlk
    · refine lv_iconst (v := 1) hx hb dX4_isOld_27 (by decide) ?_
      refine lv_goto (tgt := 32) hx hb dX4_isOld_28 (by decide) ?_
      exact end_roz hx hb hr rfl (by simp [oldB, bI, c6_1, c24_2, ]) hS dX4_isOld_32 hlk

set_option maxHeartbeats 4000000 in
set_option maxRecDepth 100000 in
theorem c_X4_vouched (l : Launch) (D : va_G) (cy : Nat → ClassId) (h0 : Nat) (q : Nat → Nat) (A : Nat → Nat → Int32) (S : Nat → Int32) (x : Int32) (sg : Int32) (nk : Nat) (hnk : nk ≤ 8) (hck : S 0 = nI nk) (nb : Nat) (hnb : nb ≤ 24) (hcb : S 1 = nI nb) : Met l yX4_vouched wsX4_vouched (rmO 4 67) (va_Pc [.ref (q 0), .int x, .int sg] (pI D cy h0 (wM cy q A S))) (rwI (bI (!noR x nb && (inR sg 4 && anyF (bkP A S sg (ix x) (-1)) nk))) D cy h0 (wM cy q A (uS S 5 (if noR x nb = true then 1 else if inR sg 4 = true then 0 else 2))) (qA 18 q)) 0 0 (qA 18 q) := by
  refine Met.ofW (cc := cX4_vouched) (maxL := 3) (ret := (some .boolean)) (by decide) rfl ?_
  intro p e s m args below meth c s₁ B hml hv
  obtain ⟨rfl, hI⟩ := hv
  have hx := B.exec
  have hb := B.bytes
  have hr := B.returns
  have hts := atoms_spec (ws := wsX4_vouched) B.pre
  have hown : s.vm.findClass RX4 = some m.cls := findClass_of_methodNamed B.named
  have hlk := B.notSynchronized
  have hI : IH D cy h0 (wM cy q A S) s s.heap := hI
  have hG := hI.1
  have hqA := hA_M hI
  have hh0 : h0 ≤ s.heap.size := hI.1.2.2.2
  have hS : va_S nof s.heap s.heap [] := va_S.rf
  have hi4 : ∀ w ∈ wsX40, w ∈ wsX4_vouched := by decide +kernel
  have hl := lv_entry ([.ref (q 0), .int x, .int sg]) (n := 3) (Nat.le_of_ble_eq_true rfl)
  rw [lg_entry_eq]
  generalize (lg_sl ([.ref (q 0), .int x, .int sg]) ++ List.replicate (3 - (lg_sl ([.ref (q 0), .int x, .int sg])).length) Slot.unset).toArray = ls at hl ⊢
  have hl : lv_has ls 3 [(0, .ref (q 0)), (1, .int x), (2, .int sg)] := hl
  refine lv_aload_n hx hb dX4_vouched_0 rfl (lv_at hl 0 rfl) ?_
  refine lv_iload_n hx hb dX4_vouched_1 rfl (lv_at hl 1 rfl) ?_
  have hS := hS.mono (B := qA 18 q) (fun _ h => h.elim)
  refine rw_i (w' := wM cy q A (uS S 5 (bI (noR x nb)))) (va_runV (As := [.int x]) (rest := []) ⟨hx, hb, hml, hown, hts⟩ (c_X4_isNoBuild l D cy h0 q A S x nb hnb hcb) (cwV 1 hts gX4_vouched_X4_isNoBuild rfl rfl rfl (by decide +kernel) ⟨Nat.le_of_ble_eq_true rfl, Nat.le_of_ble_eq_true rfl⟩) (hI.preV (k0 := 0) rfl rfl) rfl rfl hl.1 rfl (lv_room (Nat.le_of_ble_eq_true rfl)) dX4_vouched_2 ⟨Nat.le_of_ble_eq_true rfl, Nat.le_of_ble_eq_true rfl⟩) hI hS (fun _ h => h) hqA (fun H locs hI hS => ?_)
  refine r_ifne_b (tgt := 43) hx hb dX4_vouched_5 (by decide) (fun c5_1 => ?_) (fun c5_1 => ?_)
  · refine lv_iconst (v := 0) hx hb dX4_vouched_43 (by decide) ?_
    rw [show wM cy q A (uS S 5 (bI (noR x nb))) = wM cy q A (uS S 5 (if noR x nb = true then 1 else if inR sg 4 = true then 0 else 2)) from (by simp [bI, c5_1, ])] at hI
    exact end_rwz hx hb hr rfl (by simp [bI, c5_1, ]) hI hS dX4_vouched_44 hlk
  · obtain ⟨hj_x, hk_x⟩ := noR_c (by omega) c5_1
    refine lv_aload_n hx hb dX4_vouched_8 rfl (lv_at hl 0 rfl) ?_
    refine lv_iload_n hx hb dX4_vouched_9 rfl (lv_at hl 2 rfl) ?_
    refine lv_iconst (v := 0) hx hb dX4_vouched_10 (by decide) ?_
    refine lv_iconst (v := 3) hx hb dX4_vouched_11 (by decide) ?_
    refine ro_i (va_runS (As := [.int sg, .int 0, .int 3]) (rest := [.ref (q 0)]) ⟨hx, hb, hml, hown, hts⟩ (c_X4_in l sg 0 3) (va_cwS 3 hts gX4_vouched_X4_in rfl rfl rfl (by decide +kernel) ⟨Nat.le_of_ble_eq_true rfl, Nat.le_of_ble_eq_true rfl⟩) preT rfl rfl hl.1 rfl (lv_room (Nat.le_of_ble_eq_true rfl)) dX4_vouched_12 ⟨Nat.le_of_ble_eq_true rfl, Nat.le_of_ble_eq_true rfl⟩) hI hS (fun H locs hI hS => ?_)
    rw [show (bI (inB sg 0 3)) = bI (inR sg 4) from (congrArg bI (inB_3 _))]
    refine r_ifeq_b (tgt := 22) hx hb dX4_vouched_15 (by decide) (fun c15_2 => ?_) (fun c15_2 => ?_)
    · refine lv_iconst (v := 2) hx hb dX4_vouched_22 (by decide) ?_
      refine rw_i (w' := wM cy q A (uS (uS S 5 (bI (noR x nb))) 5 2)) (va_runV (As := [.int 2]) (rest := []) ⟨hx, hb, hml, hown, hts⟩ (c_X4_fails l D cy h0 q A (uS S 5 (bI (noR x nb))) 2) (cwV 1 hts gX4_vouched_X4_fails rfl rfl rfl (by decide +kernel) ⟨Nat.le_of_ble_eq_true rfl, Nat.le_of_ble_eq_true rfl⟩) (hI.preV (k0 := 0) rfl rfl) rfl rfl hl.1 rfl (lv_room (Nat.le_of_ble_eq_true rfl)) dX4_vouched_23 ⟨Nat.le_of_ble_eq_true rfl, Nat.le_of_ble_eq_true rfl⟩) hI hS (fun _ h => h) hqA (fun H locs hI hS => ?_)
      rw [uS_uS] at hI
      rw [show (bI (failsB 2)) = 1 from (by decide)]
      refine lv_if_ne (tgt := 43) hx hb dX4_vouched_26 (by decide) (fun c26_3 => ?_) (fun c26_3 => ?_)
      rotate_left
      · exact absurd c26_3 (by decide)
      refine lv_iconst (v := 0) hx hb dX4_vouched_43 (by decide) ?_
      rw [show wM cy q A (uS S 5 2) = wM cy q A (uS S 5 (if noR x nb = true then 1 else if inR sg 4 = true then 0 else 2)) from (by simp [bI, c5_1, c15_2, ])] at hI
      exact end_rwz hx hb hr rfl (by simp [bI, c5_1, c15_2, ]) hI hS dX4_vouched_44 hlk
    · obtain ⟨hj_sg, hk_sg⟩ := inR_c (by omega) c15_2
      refine lv_iconst (v := 0) hx hb dX4_vouched_18 (by decide) ?_
      refine lv_goto (tgt := 23) hx hb dX4_vouched_19 (by decide) ?_
      refine rw_i (w' := wM cy q A (uS (uS S 5 (bI (noR x nb))) 5 0)) (va_runV (As := [.int 0]) (rest := []) ⟨hx, hb, hml, hown, hts⟩ (c_X4_fails l D cy h0 q A (uS S 5 (bI (noR x nb))) 0) (cwV 1 hts gX4_vouched_X4_fails rfl rfl rfl (by decide +kernel) ⟨Nat.le_of_ble_eq_true rfl, Nat.le_of_ble_eq_true rfl⟩) (hI.preV (k0 := 0) rfl rfl) rfl rfl hl.1 rfl (lv_room (Nat.le_of_ble_eq_true rfl)) dX4_vouched_23 ⟨Nat.le_of_ble_eq_true rfl, Nat.le_of_ble_eq_true rfl⟩) hI hS (fun _ h => h) hqA (fun H locs hI hS => ?_)
      rw [uS_uS] at hI
      rw [show (bI (failsB 0)) = 0 from (by decide)]
      refine lv_if_ne (tgt := 43) hx hb dX4_vouched_26 (by decide) (fun c26_4 => ?_) (fun c26_4 => ?_)
      · exact absurd c26_4 (by decide)
      refine lv_aload_n hx hb dX4_vouched_29 rfl (lv_at hl 0 rfl) ?_
      refine lv_iload_n hx hb dX4_vouched_30 rfl (lv_at hl 2 rfl) ?_
      refine lv_iload_n hx hb dX4_vouched_31 rfl (lv_at hl 1 rfl) ?_
      refine lv_iconst (v := (-1)) hx hb dX4_vouched_32 (by decide) ?_
      refine ro_i (va_runV (As := [.int sg, .int x, .int (-1)]) (rest := []) ⟨hx, hb, hml, hown, hts⟩ (c_X4_backs l D cy h0 q A (uS S 5 0) sg x (-1) nk hnk hck (ix x) (by omega) hk_x) (cwV 3 hts gX4_vouched_X4_backs rfl rfl rfl (by decide +kernel) ⟨Nat.le_of_ble_eq_true rfl, Nat.le_of_ble_eq_true rfl⟩) (hI.preV (k0 := 0) rfl rfl) rfl rfl hl.1 rfl (lv_room (Nat.le_of_ble_eq_true rfl)) dX4_vouched_33 ⟨Nat.le_of_ble_eq_true rfl, Nat.le_of_ble_eq_true rfl⟩) hI hS (fun H locs hI hS => ?_)
      rw [bkP_5]
      refine r_ifeq_b (tgt := 43) hx hb dX4_vouched_36 (by decide) (fun c36_5 => ?_) (fun c36_5 => ?_)
      · refine lv_iconst (v := 0) hx hb dX4_vouched_43 (by decide) ?_
        rw [show wM cy q A (uS S 5 0) = wM cy q A (uS S 5 (if noR x nb = true then 1 else if inR sg 4 = true then 0 else 2)) from (by simp [bI, c5_1, c15_2, c36_5, ])] at hI
        exact end_rwz hx hb hr rfl (by simp [bI, c5_1, c15_2, c36_5, ]) hI hS dX4_vouched_44 hlk
      · refine lv_iconst (v := 1) hx hb dX4_vouched_39 (by decide) ?_
        refine lv_goto (tgt := 44) hx hb dX4_vouched_40 (by decide) ?_
        rw [show wM cy q A (uS S 5 0) = wM cy q A (uS S 5 (if noR x nb = true then 1 else if inR sg 4 = true then 0 else 2)) from (by simp [bI, c5_1, c15_2, c36_5, ])] at hI
        exact end_rwz hx hb hr rfl (by simp [bI, c5_1, c15_2, c36_5, ]) hI hS dX4_vouched_44 hlk

