/-! Ranges of arguments, floats that are no NaN, Buildlots' private methods, Integer.bitCount. Rows written by wip/whole/gen/part14.py. -/
abbrev ix (x : Int32) : Nat := x.toNatClampNeg
def inR (x : Int32) (n : Nat) : Bool := !decide (x < 0) && decide (x < nI n)
def exR (x : Int32) (n : Nat) (E : String) : Option String := if inR x n = true then none else some E
theorem exR_n {x : Int32} {n : Nat} {E : String} (h : inR x n = true) : exR x n E = none := if_pos h
theorem exR_s {x : Int32} {n : Nat} {E : String} (h : ¬ inR x n = true) : exR x n E = some E := if_neg h
theorem inR_c {x : Int32} {n : Nat} (hn : n ≤ 64) (h : inR x n = true) : ix x < n ∧ x = nI (ix x) := by
  simp only [inR, Bool.and_eq_true, Bool.not_eq_true', decide_eq_false_iff_not, decide_eq_true_eq] at h
  obtain ⟨j, hj, rfl⟩ := nI_of h.1
  have h2 := (nI_ltI hj (by omega)).mp h.2
  rw [show ix (nI j) = j from nI_clamp hj]
  exact ⟨h2, rfl⟩
theorem ix_c {x : Int32} {n : Nat} (hn : n ≤ 64) (h : ∃ t, t < n ∧ x = nI t) : ix x < n ∧ x = nI (ix x) := by
  obtain ⟨t, ht, rfl⟩ := h
  rw [show ix (nI t) = t from nI_clamp (by omega)]
  exact ⟨ht, rfl⟩
/-! floats -/
theorem nn32 {r : UInt32} (h : FP.Core.fIsNaN r = false) : vf_n32 r := by
  have h1 : ¬ (FP.Core.fIsNaN r = true) := by rw [h]; decide
  rw [FP.Core.isNaN_bits32] at h1
  show r &&& 0x7fffffff ≤ 0x7f800000
  rw [UInt32.le_iff_toNat_le]
  have h2 : (r &&& 0x7fffffff).toNat = r.toNat % 2 ^ 31 := by
    rw [UInt32.toNat_and]
    exact Nat.and_two_pow_sub_one_eq_mod _ 31
  rw [h2]
  have h3 : (0x7f800000 : UInt32).toNat = 2139095040 := rfl
  omega
theorem nn64 {r : UInt64} (h : FP.Core.dIsNaN r = false) : vf_n64 r := by
  have h1 : ¬ (FP.Core.dIsNaN r = true) := by rw [h]; decide
  rw [FP.Core.isNaN_bits] at h1
  show r &&& 0x7fffffffffffffff ≤ 0x7ff0000000000000
  rw [UInt64.le_iff_toNat_le]
  have h2 : (r &&& 0x7fffffffffffffff).toNat = r.toNat % 2 ^ 63 := by
    rw [UInt64.toNat_and]
    exact Nat.and_two_pow_sub_one_eq_mod _ 63
  rw [h2]
  have h3 : (0x7ff0000000000000 : UInt64).toNat = 9218868437227405312 := rfl
  omega
theorem fin_div (x : Int32) : FP.Core.FFin (FP.fdiv (FP.i2f x) f100) := by
  have h := FP.Core.fdiv_mag (a := FP.i2f x) (b := f100) (K := 160) (L := 133) (FP.Core.i2f_mag x) (by decide +kernel) (by decide +kernel) (by decide) (by decide)
  exact FP.Core.fin_of_lt32 h (by decide)
theorem nn_div (x : Int32) : vf_n32 (FP.fdiv (FP.i2f x) f100) := nn32 (fin_div x).notNaN
/-- the score that a set of signers gives, by the first k of them -/
def scF (w : Nat → Int32) (v : Int32) : Nat → UInt32
  | 0 => FP.fconst0
  | k + 1 => if hold v (nI k) then FP.fadd (scF w v k) (FP.fdiv (FP.i2f (w k)) f100) else scF w v k
theorem scF_nn (w : Nat → Int32) (v : Int32) : ∀ k, FP.Core.fIsNaN (scF w v k) = false
  | 0 => by show FP.Core.fIsNaN FP.fconst0 = false; decide +kernel
  | k + 1 => by
    unfold scF
    split
    · exact FP.Core.fadd_out (scF_nn w v k) (fin_div _)
    · exact scF_nn w v k
theorem nn_sc (w : Nat → Int32) (v : Int32) (k : Nat) : vf_n32 (FP.fadd (scF w v k) (FP.fdiv (FP.i2f (w k)) f100)) := nn32 (FP.Core.fadd_out (scF_nn w v k) (fin_div _))
def sufB (A : Nat → Nat → Int32) (v : Int32) (j : Nat) : Bool := !decide (Op.cmpValue (FP.fcmp (scF (A 0) v 4) (FP.fdiv (FP.i2f (A 1 (ix (A 5 j)))) f100)) CmpOp.l < 0)
def tbF (A : Nat → Nat → Int32) : Nat → Int32
  | 0 => 0
  | k + 1 => if sufB A (A 10 k) k then tbF A k ||| ly (nI k) else tbF A k
def expB (A : Nat → Nat → Int32) (S : Nat → Int32) (j : Nat) : Bool := decide (A 13 j = -1) || !decide (S 1 - A 13 j ≤ S 0)
def bc1 (x : Int32) : Int32 := x - ((x.toUInt32 >>> ((1 : Int32).toUInt32 &&& Int32.toUInt32 31)).toInt32 &&& 1431655765)
def bc2 (x : Int32) : Int32 := (x &&& 858993459) + ((x.toUInt32 >>> ((2 : Int32).toUInt32 &&& Int32.toUInt32 31)).toInt32 &&& 858993459)
def bc3 (x : Int32) : Int32 := (x + (x.toUInt32 >>> ((4 : Int32).toUInt32 &&& Int32.toUInt32 31)).toInt32) &&& 252645135
def bc4 (x : Int32) : Int32 := x + (x.toUInt32 >>> ((8 : Int32).toUInt32 &&& Int32.toUInt32 31)).toInt32
def bc5 (x : Int32) : Int32 := x + (x.toUInt32 >>> ((16 : Int32).toUInt32 &&& Int32.toUInt32 31)).toInt32
def bcF (x : Int32) : Int32 := bc5 (bc4 (bc3 (bc2 (bc1 x)))) &&& 63

set_option maxHeartbeats 4000000 in
set_option maxRecDepth 100000 in
theorem c_X3_requireSigner (l : Launch) (hst : l.stackTraces = false) (D : va_G) (cy : Nat → ClassId) (h0 : Nat) (q : Nat → Nat) (A : Nat → Nat → Int32) (S : Nat → Int32) (x : Int32) : vx_Met l yX3_requireSigner wsX3_requireSigner (rmX (exR x 4 xIAE) 6 82) (va_Pc [.ref (q 0), .int x] (pI D cy h0 (wX cy q A S))) (xoV (exR x 4 xIAE)) (xx (exR x 4 xIAE)) (c1 (exR x 4 xIAE)) (c6 (exR x 4 xIAE)) nof := by
  refine vx_ofW (cc := cX3_requireSigner) (maxL := 2) (ret := none) (by decide) rfl ?_
  intro p e s m args below meth c s₁ B hml hout hv
  obtain ⟨rfl, hI⟩ := hv
  have hx := B.exec
  have hb := B.bytes
  have hr := B.returns
  have hts := atoms_spec (ws := wsX3_requireSigner) B.pre
  have hown : s.vm.findClass RX3 = some m.cls := findClass_of_methodNamed B.named
  have hlk := B.notSynchronized
  have hI : IH D cy h0 (wX cy q A S) s s.heap := hI
  have hG := hI.1
  have hS : va_S nof s.heap s.heap [] := va_S.rf
  have hl := lv_entry ([.ref (q 0), .int x]) (n := 2) (Nat.le_of_ble_eq_true rfl)
  rw [lg_entry_eq]
  generalize (lg_sl ([.ref (q 0), .int x]) ++ List.replicate (2 - (lg_sl ([.ref (q 0), .int x])).length) Slot.unset).toArray = ls at hl ⊢
  have hl : lv_has ls 2 [(0, .ref (q 0)), (1, .int x)] := hl
  refine lv_iload_n hx hb dX3_requireSigner_0 rfl (lv_at hl 1 rfl) ?_
  refine lv_if_lt (tgt := 9) hx hb dX3_requireSigner_1 (by decide) (fun c1_1 => ?_) (fun c1_1 => ?_)
  · exact r_throw (text := "no such signer") hx hb hst hown (by decide) (by decide) tg_IAE tb_IAE (hts (.classLink RX3 48 "java/lang/IllegalArgumentException") (List.mem_of_getElem? (i := 1) rfl)) (hts (.initialized "java/lang/IllegalArgumentException") (List.mem_of_getElem? (i := 2) rfl)) (fun w h => hts w (List.mem_cons_of_mem _ (List.mem_append_right _ h))) (by decide) hG hS (by rw [hml]; exact hl.1) (by first | (simp only [exR, inR, show nI 4 = 4 from rfl, c1_1, ↓reduceIte, Bool.false_eq_true, reduceCtorEq]; done) | simp [exR, inR, show nI 4 = 4 from rfl, c1_1]) dX3_requireSigner_9 dX3_requireSigner_12 dX3_requireSigner_13 dX3_requireSigner_15 dX3_requireSigner_18 hout (Nat.le_of_ble_eq_true rfl) (Nat.le_of_ble_eq_true rfl) (Nat.le_refl _) (Nat.le_refl _) hlk
  · refine lv_iload_n hx hb dX3_requireSigner_4 rfl (lv_at hl 1 rfl) ?_
    refine lv_iconst (v := 4) hx hb dX3_requireSigner_5 (by decide) ?_
    refine lv_icmp_lt (tgt := 19) hx hb dX3_requireSigner_6 (by decide) (fun c6_2 => ?_) (fun c6_2 => ?_)
    · exact end_xov hx hb hr (by first | (simp only [exR, inR, show nI 4 = 4 from rfl, c1_1, c6_2, ↓reduceIte, Bool.false_eq_true, reduceCtorEq]; done) | simp [exR, inR, show nI 4 = 4 from rfl, c1_1, c6_2]) hS dX3_requireSigner_19 hlk
    · exact r_throw (text := "no such signer") hx hb hst hown (by decide) (by decide) tg_IAE tb_IAE (hts (.classLink RX3 48 "java/lang/IllegalArgumentException") (List.mem_of_getElem? (i := 1) rfl)) (hts (.initialized "java/lang/IllegalArgumentException") (List.mem_of_getElem? (i := 2) rfl)) (fun w h => hts w (List.mem_cons_of_mem _ (List.mem_append_right _ h))) (by decide) hG hS (by rw [hml]; exact hl.1) (by first | (simp only [exR, inR, show nI 4 = 4 from rfl, c1_1, c6_2, ↓reduceIte, Bool.false_eq_true, reduceCtorEq]; done) | simp [exR, inR, show nI 4 = 4 from rfl, c1_1, c6_2]) dX3_requireSigner_9 dX3_requireSigner_12 dX3_requireSigner_13 dX3_requireSigner_15 dX3_requireSigner_18 hout (Nat.le_of_ble_eq_true rfl) (Nat.le_of_ble_eq_true rfl) (Nat.le_refl _) (Nat.le_refl _) hlk

set_option maxHeartbeats 4000000 in
set_option maxRecDepth 100000 in
theorem c_X3_requireName (l : Launch) (hst : l.stackTraces = false) (D : va_G) (cy : Nat → ClassId) (h0 : Nat) (q : Nat → Nat) (A : Nat → Nat → Int32) (S : Nat → Int32) (x : Int32) : vx_Met l yX3_requireName wsX3_requireName (rmX (exR x 5 xIAE) 6 82) (va_Pc [.ref (q 0), .int x] (pI D cy h0 (wX cy q A S))) (xoV (exR x 5 xIAE)) (xx (exR x 5 xIAE)) (c1 (exR x 5 xIAE)) (c6 (exR x 5 xIAE)) nof := by
  refine vx_ofW (cc := cX3_requireName) (maxL := 2) (ret := none) (by decide) rfl ?_
  intro p e s m args below meth c s₁ B hml hout hv
  obtain ⟨rfl, hI⟩ := hv
  have hx := B.exec
  have hb := B.bytes
  have hr := B.returns
  have hts := atoms_spec (ws := wsX3_requireName) B.pre
  have hown : s.vm.findClass RX3 = some m.cls := findClass_of_methodNamed B.named
  have hlk := B.notSynchronized
  have hI : IH D cy h0 (wX cy q A S) s s.heap := hI
  have hG := hI.1
  have hS : va_S nof s.heap s.heap [] := va_S.rf
  have hl := lv_entry ([.ref (q 0), .int x]) (n := 2) (Nat.le_of_ble_eq_true rfl)
  rw [lg_entry_eq]
  generalize (lg_sl ([.ref (q 0), .int x]) ++ List.replicate (2 - (lg_sl ([.ref (q 0), .int x])).length) Slot.unset).toArray = ls at hl ⊢
  have hl : lv_has ls 2 [(0, .ref (q 0)), (1, .int x)] := hl
  refine lv_iload_n hx hb dX3_requireName_0 rfl (lv_at hl 1 rfl) ?_
  refine lv_if_lt (tgt := 9) hx hb dX3_requireName_1 (by decide) (fun c1_1 => ?_) (fun c1_1 => ?_)
  · exact r_throw (text := "no such name") hx hb hst hown (by decide) (by decide) tg_IAE tb_IAE (hts (.classLink RX3 48 "java/lang/IllegalArgumentException") (List.mem_of_getElem? (i := 1) rfl)) (hts (.initialized "java/lang/IllegalArgumentException") (List.mem_of_getElem? (i := 2) rfl)) (fun w h => hts w (List.mem_cons_of_mem _ (List.mem_append_right _ h))) (by decide) hG hS (by rw [hml]; exact hl.1) (by first | (simp only [exR, inR, show nI 5 = 5 from rfl, c1_1, ↓reduceIte, Bool.false_eq_true, reduceCtorEq]; done) | simp [exR, inR, show nI 5 = 5 from rfl, c1_1]) dX3_requireName_9 dX3_requireName_12 dX3_requireName_13 dX3_requireName_15 dX3_requireName_18 hout (Nat.le_of_ble_eq_true rfl) (Nat.le_of_ble_eq_true rfl) (Nat.le_refl _) (Nat.le_refl _) hlk
  · refine lv_iload_n hx hb dX3_requireName_4 rfl (lv_at hl 1 rfl) ?_
    refine lv_iconst (v := 5) hx hb dX3_requireName_5 (by decide) ?_
    refine lv_icmp_lt (tgt := 19) hx hb dX3_requireName_6 (by decide) (fun c6_2 => ?_) (fun c6_2 => ?_)
    · exact end_xov hx hb hr (by first | (simp only [exR, inR, show nI 5 = 5 from rfl, c1_1, c6_2, ↓reduceIte, Bool.false_eq_true, reduceCtorEq]; done) | simp [exR, inR, show nI 5 = 5 from rfl, c1_1, c6_2]) hS dX3_requireName_19 hlk
    · exact r_throw (text := "no such name") hx hb hst hown (by decide) (by decide) tg_IAE tb_IAE (hts (.classLink RX3 48 "java/lang/IllegalArgumentException") (List.mem_of_getElem? (i := 1) rfl)) (hts (.initialized "java/lang/IllegalArgumentException") (List.mem_of_getElem? (i := 2) rfl)) (fun w h => hts w (List.mem_cons_of_mem _ (List.mem_append_right _ h))) (by decide) hG hS (by rw [hml]; exact hl.1) (by first | (simp only [exR, inR, show nI 5 = 5 from rfl, c1_1, c6_2, ↓reduceIte, Bool.false_eq_true, reduceCtorEq]; done) | simp [exR, inR, show nI 5 = 5 from rfl, c1_1, c6_2]) dX3_requireName_9 dX3_requireName_12 dX3_requireName_13 dX3_requireName_15 dX3_requireName_18 hout (Nat.le_of_ble_eq_true rfl) (Nat.le_of_ble_eq_true rfl) (Nat.le_refl _) (Nat.le_refl _) hlk

set_option maxHeartbeats 4000000 in
set_option maxRecDepth 100000 in
theorem c_X3_requireKey (l : Launch) (hst : l.stackTraces = false) (D : va_G) (cy : Nat → ClassId) (h0 : Nat) (q : Nat → Nat) (A : Nat → Nat → Int32) (S : Nat → Int32) (x : Int32) (nk : Nat) (hnk : nk ≤ 8) (hck : S 3 = nI nk) : vx_Met l yX3_requireKey wsX3_requireKey (rmX (exR x nk xIOB) 6 82) (va_Pc [.ref (q 0), .int x] (pI D cy h0 (wX cy q A S))) (xoV (exR x nk xIOB)) (xx (exR x nk xIOB)) (c1 (exR x nk xIOB)) (c6 (exR x nk xIOB)) nof := by
  refine vx_ofW (cc := cX3_requireKey) (maxL := 2) (ret := none) (by decide) rfl ?_
  intro p e s m args below meth c s₁ B hml hout hv
  obtain ⟨rfl, hI⟩ := hv
  have hx := B.exec
  have hb := B.bytes
  have hr := B.returns
  have hts := atoms_spec (ws := wsX3_requireKey) B.pre
  have hown : s.vm.findClass RX3 = some m.cls := findClass_of_methodNamed B.named
  have hlk := B.notSynchronized
  have hI : IH D cy h0 (wX cy q A S) s s.heap := hI
  have hG := hI.1
  have hS : va_S nof s.heap s.heap [] := va_S.rf
  have hi1 : ∀ w ∈ wsX10, w ∈ wsX3_requireKey := by decide +kernel
  have hi3 : ∀ w ∈ wsX30, w ∈ wsX3_requireKey := by decide +kernel
  have hl := lv_entry ([.ref (q 0), .int x]) (n := 2) (Nat.le_of_ble_eq_true rfl)
  rw [lg_entry_eq]
  generalize (lg_sl ([.ref (q 0), .int x]) ++ List.replicate (2 - (lg_sl ([.ref (q 0), .int x])).length) Slot.unset).toArray = ls at hl ⊢
  have hl : lv_has ls 2 [(0, .ref (q 0)), (1, .int x)] := hl
  refine lv_iload_n hx hb dX3_requireKey_0 rfl (lv_at hl 1 rfl) ?_
  refine lv_if_lt (tgt := 15) hx hb dX3_requireKey_1 (by decide) (fun c1_1 => ?_) (fun c1_1 => ?_)
  · exact r_throw (text := "no such key") hx hb hst hown (by decide) (by decide) tg_IOB tb_IOB (hts (.classLink RX3 235 "java/lang/IndexOutOfBoundsException") (List.mem_of_getElem? (i := 1) rfl)) (hts (.initialized "java/lang/IndexOutOfBoundsException") (List.mem_of_getElem? (i := 2) rfl)) (fun w h => hts w (List.mem_cons_of_mem _ (List.mem_append_right _ h))) (by decide) hG hS (by rw [hml]; exact hl.1) (by first | (simp only [exR, inR, ← hck, c1_1, ↓reduceIte, Bool.false_eq_true, reduceCtorEq]; done) | simp [exR, inR, ← hck, c1_1]) dX3_requireKey_15 dX3_requireKey_18 dX3_requireKey_19 dX3_requireKey_21 dX3_requireKey_24 hout (Nat.le_of_ble_eq_true rfl) (Nat.le_of_ble_eq_true rfl) (Nat.le_refl _) (Nat.le_refl _) hlk
  · refine lv_iload_n hx hb dX3_requireKey_4 rfl (lv_at hl 1 rfl) ?_
    refine lv_aload_n hx hb dX3_requireKey_5 rfl (lv_at hl 0 rfl) ?_
    refine r_get (C := RX3) (T := TX3) (N := 7) (k := 0) (q0 := 0) (v := .ref (q 1)) hx hb hts hi3 hown hI rfl rfl (by decide) (hts (.fieldLink RX3 10 "Buildlots" "keys" "LBuildlots$Keys;") (List.mem_of_getElem? (i := 3) rfl)) rfl rfl dX3_requireKey_6 ?_
    refine r_getN (C := RX1) (T := TX1) (N := 5) (k := 4) (q0 := 1) (v := .int (S 3)) hx hb hts hi1 hown hI rfl rfl (by decide) (List.mem_of_getElem? (i := 14) rfl) rfl rfl dX3_requireKey_9 ?_
    refine lv_icmp_lt (tgt := 25) hx hb dX3_requireKey_12 (by decide) (fun c12_2 => ?_) (fun c12_2 => ?_)
    · exact end_xov hx hb hr (by first | (simp only [exR, inR, ← hck, c1_1, c12_2, ↓reduceIte, Bool.false_eq_true, reduceCtorEq]; done) | simp [exR, inR, ← hck, c1_1, c12_2]) hS dX3_requireKey_25 hlk
    · exact r_throw (text := "no such key") hx hb hst hown (by decide) (by decide) tg_IOB tb_IOB (hts (.classLink RX3 235 "java/lang/IndexOutOfBoundsException") (List.mem_of_getElem? (i := 1) rfl)) (hts (.initialized "java/lang/IndexOutOfBoundsException") (List.mem_of_getElem? (i := 2) rfl)) (fun w h => hts w (List.mem_cons_of_mem _ (List.mem_append_right _ h))) (by decide) hG hS (by rw [hml]; exact hl.1) (by first | (simp only [exR, inR, ← hck, c1_1, c12_2, ↓reduceIte, Bool.false_eq_true, reduceCtorEq]; done) | simp [exR, inR, ← hck, c1_1, c12_2]) dX3_requireKey_15 dX3_requireKey_18 dX3_requireKey_19 dX3_requireKey_21 dX3_requireKey_24 hout (Nat.le_of_ble_eq_true rfl) (Nat.le_of_ble_eq_true rfl) (Nat.le_refl _) (Nat.le_refl _) hlk

set_option maxHeartbeats 4000000 in
set_option maxRecDepth 100000 in
theorem c_X3_requireBuild (l : Launch) (hst : l.stackTraces = false) (D : va_G) (cy : Nat → ClassId) (h0 : Nat) (q : Nat → Nat) (A : Nat → Nat → Int32) (S : Nat → Int32) (x : Int32) (nb : Nat) (hnb : nb ≤ 24) (hcb : S 5 = nI nb) : vx_Met l yX3_requireBuild wsX3_requireBuild (rmX (exR x nb xIOB) 6 82) (va_Pc [.ref (q 0), .int x] (pI D cy h0 (wX cy q A S))) (xoV (exR x nb xIOB)) (xx (exR x nb xIOB)) (c1 (exR x nb xIOB)) (c6 (exR x nb xIOB)) nof := by
  refine vx_ofW (cc := cX3_requireBuild) (maxL := 2) (ret := none) (by decide) rfl ?_
  intro p e s m args below meth c s₁ B hml hout hv
  obtain ⟨rfl, hI⟩ := hv
  have hx := B.exec
  have hb := B.bytes
  have hr := B.returns
  have hts := atoms_spec (ws := wsX3_requireBuild) B.pre
  have hown : s.vm.findClass RX3 = some m.cls := findClass_of_methodNamed B.named
  have hlk := B.notSynchronized
  have hI : IH D cy h0 (wX cy q A S) s s.heap := hI
  have hG := hI.1
  have hS : va_S nof s.heap s.heap [] := va_S.rf
  have hi0 : ∀ w ∈ wsX00, w ∈ wsX3_requireBuild := by decide +kernel
  have hi3 : ∀ w ∈ wsX30, w ∈ wsX3_requireBuild := by decide +kernel
  have hl := lv_entry ([.ref (q 0), .int x]) (n := 2) (Nat.le_of_ble_eq_true rfl)
  rw [lg_entry_eq]
  generalize (lg_sl ([.ref (q 0), .int x]) ++ List.replicate (2 - (lg_sl ([.ref (q 0), .int x])).length) Slot.unset).toArray = ls at hl ⊢
  have hl : lv_has ls 2 [(0, .ref (q 0)), (1, .int x)] := hl
  refine lv_iload_n hx hb dX3_requireBuild_0 rfl (lv_at hl 1 rfl) ?_
  refine lv_if_lt (tgt := 15) hx hb dX3_requireBuild_1 (by decide) (fun c1_1 => ?_) (fun c1_1 => ?_)
  · exact r_throw (text := "no such build") hx hb hst hown (by decide) (by decide) tg_IOB tb_IOB (hts (.classLink RX3 235 "java/lang/IndexOutOfBoundsException") (List.mem_of_getElem? (i := 1) rfl)) (hts (.initialized "java/lang/IndexOutOfBoundsException") (List.mem_of_getElem? (i := 2) rfl)) (fun w h => hts w (List.mem_cons_of_mem _ (List.mem_append_right _ h))) (by decide) hG hS (by rw [hml]; exact hl.1) (by first | (simp only [exR, inR, ← hcb, c1_1, ↓reduceIte, Bool.false_eq_true, reduceCtorEq]; done) | simp [exR, inR, ← hcb, c1_1]) dX3_requireBuild_15 dX3_requireBuild_18 dX3_requireBuild_19 dX3_requireBuild_21 dX3_requireBuild_24 hout (Nat.le_of_ble_eq_true rfl) (Nat.le_of_ble_eq_true rfl) (Nat.le_refl _) (Nat.le_refl _) hlk
  · refine lv_iload_n hx hb dX3_requireBuild_4 rfl (lv_at hl 1 rfl) ?_
    refine lv_aload_n hx hb dX3_requireBuild_5 rfl (lv_at hl 0 rfl) ?_
    refine r_get (C := RX3) (T := TX3) (N := 7) (k := 1) (q0 := 0) (v := .ref (q 2)) hx hb hts hi3 hown hI rfl rfl (by decide) (hts (.fieldLink RX3 19 "Buildlots" "builds" "LBuildlots$Builds;") (List.mem_of_getElem? (i := 3) rfl)) rfl rfl dX3_requireBuild_6 ?_
    refine r_getN (C := RX0) (T := TX0) (N := 10) (k := 9) (q0 := 2) (v := .int (S 5)) hx hb hts hi0 hown hI rfl rfl (by decide) (List.mem_of_getElem? (i := 0) rfl) rfl rfl dX3_requireBuild_9 ?_
    refine lv_icmp_lt (tgt := 25) hx hb dX3_requireBuild_12 (by decide) (fun c12_2 => ?_) (fun c12_2 => ?_)
    · exact end_xov hx hb hr (by first | (simp only [exR, inR, ← hcb, c1_1, c12_2, ↓reduceIte, Bool.false_eq_true, reduceCtorEq]; done) | simp [exR, inR, ← hcb, c1_1, c12_2]) hS dX3_requireBuild_25 hlk
    · exact r_throw (text := "no such build") hx hb hst hown (by decide) (by decide) tg_IOB tb_IOB (hts (.classLink RX3 235 "java/lang/IndexOutOfBoundsException") (List.mem_of_getElem? (i := 1) rfl)) (hts (.initialized "java/lang/IndexOutOfBoundsException") (List.mem_of_getElem? (i := 2) rfl)) (fun w h => hts w (List.mem_cons_of_mem _ (List.mem_append_right _ h))) (by decide) hG hS (by rw [hml]; exact hl.1) (by first | (simp only [exR, inR, ← hcb, c1_1, c12_2, ↓reduceIte, Bool.false_eq_true, reduceCtorEq]; done) | simp [exR, inR, ← hcb, c1_1, c12_2]) dX3_requireBuild_15 dX3_requireBuild_18 dX3_requireBuild_19 dX3_requireBuild_21 dX3_requireBuild_24 hout (Nat.le_of_ble_eq_true rfl) (Nat.le_of_ble_eq_true rfl) (Nat.le_refl _) (Nat.le_refl _) hlk

set_option maxHeartbeats 4000000 in
set_option maxRecDepth 100000 in
theorem c_X3_requireMirror (l : Launch) (hst : l.stackTraces = false) (D : va_G) (cy : Nat → ClassId) (h0 : Nat) (q : Nat → Nat) (A : Nat → Nat → Int32) (S : Nat → Int32) (x : Int32) (nm : Nat) (hnm : nm ≤ 3) (hcm : S 6 = nI nm) : vx_Met l yX3_requireMirror wsX3_requireMirror (rmX (exR x nm xIOB) 6 82) (va_Pc [.ref (q 0), .int x] (pI D cy h0 (wX cy q A S))) (xoV (exR x nm xIOB)) (xx (exR x nm xIOB)) (c1 (exR x nm xIOB)) (c6 (exR x nm xIOB)) nof := by
  refine vx_ofW (cc := cX3_requireMirror) (maxL := 2) (ret := none) (by decide) rfl ?_
  intro p e s m args below meth c s₁ B hml hout hv
  obtain ⟨rfl, hI⟩ := hv
  have hx := B.exec
  have hb := B.bytes
  have hr := B.returns
  have hts := atoms_spec (ws := wsX3_requireMirror) B.pre
  have hown : s.vm.findClass RX3 = some m.cls := findClass_of_methodNamed B.named
  have hlk := B.notSynchronized
  have hI : IH D cy h0 (wX cy q A S) s s.heap := hI
  have hG := hI.1
  have hS : va_S nof s.heap s.heap [] := va_S.rf
  have hi2 : ∀ w ∈ wsX20, w ∈ wsX3_requireMirror := by decide +kernel
  have hi3 : ∀ w ∈ wsX30, w ∈ wsX3_requireMirror := by decide +kernel
  have hl := lv_entry ([.ref (q 0), .int x]) (n := 2) (Nat.le_of_ble_eq_true rfl)
  rw [lg_entry_eq]
  generalize (lg_sl ([.ref (q 0), .int x]) ++ List.replicate (2 - (lg_sl ([.ref (q 0), .int x])).length) Slot.unset).toArray = ls at hl ⊢
  have hl : lv_has ls 2 [(0, .ref (q 0)), (1, .int x)] := hl
  refine lv_iload_n hx hb dX3_requireMirror_0 rfl (lv_at hl 1 rfl) ?_
  refine lv_if_lt (tgt := 15) hx hb dX3_requireMirror_1 (by decide) (fun c1_1 => ?_) (fun c1_1 => ?_)
  · exact r_throw (text := "no such mirror") hx hb hst hown (by decide) (by decide) tg_IOB tb_IOB (hts (.classLink RX3 235 "java/lang/IndexOutOfBoundsException") (List.mem_of_getElem? (i := 1) rfl)) (hts (.initialized "java/lang/IndexOutOfBoundsException") (List.mem_of_getElem? (i := 2) rfl)) (fun w h => hts w (List.mem_cons_of_mem _ (List.mem_append_right _ h))) (by decide) hG hS (by rw [hml]; exact hl.1) (by first | (simp only [exR, inR, ← hcm, c1_1, ↓reduceIte, Bool.false_eq_true, reduceCtorEq]; done) | simp [exR, inR, ← hcm, c1_1]) dX3_requireMirror_15 dX3_requireMirror_18 dX3_requireMirror_19 dX3_requireMirror_21 dX3_requireMirror_24 hout (Nat.le_of_ble_eq_true rfl) (Nat.le_of_ble_eq_true rfl) (Nat.le_refl _) (Nat.le_refl _) hlk
  · refine lv_iload_n hx hb dX3_requireMirror_4 rfl (lv_at hl 1 rfl) ?_
    refine lv_aload_n hx hb dX3_requireMirror_5 rfl (lv_at hl 0 rfl) ?_
    refine r_get (C := RX3) (T := TX3) (N := 7) (k := 2) (q0 := 0) (v := .ref (q 3)) hx hb hts hi3 hown hI rfl rfl (by decide) (hts (.fieldLink RX3 26 "Buildlots" "mirrors" "LBuildlots$Mirrors;") (List.mem_of_getElem? (i := 3) rfl)) rfl rfl dX3_requireMirror_6 ?_
    refine r_getN (C := RX2) (T := TX2) (N := 3) (k := 2) (q0 := 3) (v := .int (S 6)) hx hb hts hi2 hown hI rfl rfl (by decide) (List.mem_of_getElem? (i := 11) rfl) rfl rfl dX3_requireMirror_9 ?_
    refine lv_icmp_lt (tgt := 25) hx hb dX3_requireMirror_12 (by decide) (fun c12_2 => ?_) (fun c12_2 => ?_)
    · exact end_xov hx hb hr (by first | (simp only [exR, inR, ← hcm, c1_1, c12_2, ↓reduceIte, Bool.false_eq_true, reduceCtorEq]; done) | simp [exR, inR, ← hcm, c1_1, c12_2]) hS dX3_requireMirror_25 hlk
    · exact r_throw (text := "no such mirror") hx hb hst hown (by decide) (by decide) tg_IOB tb_IOB (hts (.classLink RX3 235 "java/lang/IndexOutOfBoundsException") (List.mem_of_getElem? (i := 1) rfl)) (hts (.initialized "java/lang/IndexOutOfBoundsException") (List.mem_of_getElem? (i := 2) rfl)) (fun w h => hts w (List.mem_cons_of_mem _ (List.mem_append_right _ h))) (by decide) hG hS (by rw [hml]; exact hl.1) (by first | (simp only [exR, inR, ← hcm, c1_1, c12_2, ↓reduceIte, Bool.false_eq_true, reduceCtorEq]; done) | simp [exR, inR, ← hcm, c1_1, c12_2]) dX3_requireMirror_15 dX3_requireMirror_18 dX3_requireMirror_19 dX3_requireMirror_21 dX3_requireMirror_24 hout (Nat.le_of_ble_eq_true rfl) (Nat.le_of_ble_eq_true rfl) (Nat.le_refl _) (Nat.le_refl _) hlk

def exF (x : Int32) : Option String := if x = -1 then some xNSE else none
theorem exF_n {x : Int32} (h : ¬ x = -1) : exF x = none := if_neg h
theorem exF_s {x : Int32} (h : x = -1) : exF x = some xNSE := if_pos h
set_option maxHeartbeats 4000000 in
set_option maxRecDepth 100000 in
theorem c_X3_requireFound (l : Launch) (hst : l.stackTraces = false) (D : va_G) (cy : Nat → ClassId) (h0 : Nat) (q : Nat → Nat) (A : Nat → Nat → Int32) (S : Nat → Int32) (x : Int32) : vx_Met l yX3_requireFound wsX3_requireFound (rmX (exF x) 6 82) (va_Pc [.int x] (pI D cy h0 (wX cy q A S))) (xoI (exF x) x) (xx (exF x)) (c1 (exF x)) (c6 (exF x)) nof := by
  refine vx_ofW (cc := cX3_requireFound) (maxL := 1) (ret := (some .int)) (by decide) rfl ?_
  intro p e s m args below meth c s₁ B hml hout hv
  obtain ⟨rfl, hI⟩ := hv
  have hx := B.exec
  have hb := B.bytes
  have hr := B.returns
  have hts := atoms_spec (ws := wsX3_requireFound) B.pre
  have hown : s.vm.findClass RX3 = some m.cls := findClass_of_methodNamed B.named
  have hlk := B.notSynchronized
  have hI : IH D cy h0 (wX cy q A S) s s.heap := hI
  have hG := hI.1
  have hS : va_S nof s.heap s.heap [] := va_S.rf
  have hl := lv_entry ([.int x]) (n := 1) (Nat.le_of_ble_eq_true rfl)
  rw [lg_entry_eq]
  generalize (lg_sl ([.int x]) ++ List.replicate (1 - (lg_sl ([.int x])).length) Slot.unset).toArray = ls at hl ⊢
  have hl : lv_has ls 1 [(0, .int x)] := hl
  refine lv_iload_n hx hb dX3_requireFound_0 rfl (lv_at hl 0 rfl) ?_
  refine lv_iconst (v := (-1)) hx hb dX3_requireFound_1 (by decide) ?_
  refine lv_icmp_ne (tgt := 15) hx hb dX3_requireFound_2 (by decide) (fun c2_1 => ?_) (fun c2_1 => ?_)
  · refine lv_iload_n hx hb dX3_requireFound_15 rfl (lv_at hl 0 rfl) ?_
    exact end_xoi hx hb hr (by first | (simp only [exF, c2_1, ↓reduceIte, Bool.false_eq_true, reduceCtorEq]; done) | simp [exF, c2_1]) rfl hS dX3_requireFound_16 hlk
  · exact r_throwN (text := "no such build of the name") hx hb hst hown (by decide) (by decide) tg_NSE tb_NSE (hts (.classLink RX3 197 "java/util/NoSuchElementException") (List.mem_of_getElem? (i := 1) rfl)) (hts (.initialized "java/util/NoSuchElementException") (List.mem_of_getElem? (i := 2) rfl)) (fun w h => hts w (List.mem_cons_of_mem _ (List.mem_append_right _ h))) (by decide) hG hS (by rw [hml]; exact hl.1) (by first | (simp only [exF, c2_1, ↓reduceIte, Bool.false_eq_true, reduceCtorEq]; done) | simp [exF, c2_1]) dX3_requireFound_5 dX3_requireFound_8 dX3_requireFound_9 dX3_requireFound_11 dX3_requireFound_14 hout (Nat.le_of_ble_eq_true rfl) (Nat.le_of_ble_eq_true rfl) (Nat.le_refl _) (Nat.le_refl _) hlk

set_option maxHeartbeats 4000000 in
set_option maxRecDepth 100000 in
theorem c_X3_scoreFrom (l : Launch) (D : va_G) (cy : Nat → ClassId) (h0 : Nat) (q : Nat → Nat) (A : Nat → Nat → Int32) (S : Nat → Int32) (v : Int32) : Met l yX3_scoreFrom wsX3_scoreFrom (rmO 3 41) (va_Pc [.ref (q 0), .int v] (pI D cy h0 (wX cy q A S))) (roF (scF (A 0) v 4)) 0 0 nof := by
  refine Met.ofW (cc := cX3_scoreFrom) (maxL := 4) (ret := (some .float)) (by decide) rfl ?_
  intro p e s m args below meth c s₁ B hml hv
  obtain ⟨rfl, hI⟩ := hv
  have hx := B.exec
  have hb := B.bytes
  have hr := B.returns
  have hts := atoms_spec (ws := wsX3_scoreFrom) B.pre
  have hown : s.vm.findClass RX3 = some m.cls := findClass_of_methodNamed B.named
  have hlk := B.notSynchronized
  have hI : IH D cy h0 (wX cy q A S) s s.heap := hI
  have hG := hI.1
  have hS : va_S nof s.heap s.heap [] := va_S.rf
  have hi3 : ∀ w ∈ wsX30, w ∈ wsX3_scoreFrom := by decide +kernel
  have hl := lv_entry ([.ref (q 0), .int v]) (n := 4) (Nat.le_of_ble_eq_true rfl)
  rw [lg_entry_eq]
  generalize (lg_sl ([.ref (q 0), .int v]) ++ List.replicate (4 - (lg_sl ([.ref (q 0), .int v])).length) Slot.unset).toArray = ls at hl ⊢
  have hl : lv_has ls 4 [(0, .ref (q 0)), (1, .int v)] := hl
  refine lv_fconst0 hx hb dX3_scoreFrom_0 ?_
  refine lv_fstore_n (lv' := [(2, .float FP.fconst0), (0, .ref (q 0)), (1, .int v)]) hx hb dX3_scoreFrom_1 rfl hl (by decide) rfl (fun ls hl => ?_)
  refine lv_iconst (v := 0) hx hb dX3_scoreFrom_2 (by decide) ?_
  refine lv_istore_n (lv' := [(3, .int 0), (2, .float FP.fconst0), (0, .ref (q 0)), (1, .int v)]) hx hb dX3_scoreFrom_3 rfl hl (by decide) rfl (fun ls hl => ?_)
  suffices KL4 : ∀ (n9 k : Nat), k + n9 = 4 → ∀ (H : Heap) (locs : List Loc), IH D cy h0 (wX cy q A S) s H → va_S (nof) s.heap H locs → ∀ ls : Array Slot, lv_has ls 4 [(3, .int (nI k)), (2, .float (scF (A 0) v k)), (0, .ref (q 0)), (1, .int v)] → W p l e (headSpec wsX3_scoreFrom (rmO 3 41)).room s m ([.ref (q 0), .int v]).toArray below meth c H locs 0 0 (MQ below (roF (scF (A 0) v 4)) ([.ref (q 0), .int v]).toArray s 0 0 nof) (F0 m 4 ls []) by
    exact KL4 4 0 (by omega) _ _ hI hS ls ((lv_sub hl [0, 1, 2, 3] rfl))
  intro n9
  induction n9 with
  | zero =>
    intro k hk H locs hI hS ls hl
    have hk : 4 = k := by omega
    subst hk
    refine lv_iload_n hx hb dX3_scoreFrom_4 rfl (lv_at hl 0 rfl) ?_
    refine lv_iconst (v := 4) hx hb dX3_scoreFrom_5 (by decide) ?_
    refine lv_icmp_ge (tgt := 36) hx hb dX3_scoreFrom_6 (by decide) (fun c6_1 => ?_) (fun c6_1 => ?_)
    rotate_left
    · exact absurd (i_ge rfl (show (4 : Int32) = nI 4 from rfl) (Nat.le_refl _) (by omega)) c6_1
    refine lv_fload_n hx hb dX3_scoreFrom_36 rfl (lv_at hl 1 rfl) ?_
    exact end_rof hx hb hr rfl hS dX3_scoreFrom_37 hlk
  | succ n9 ih4 =>
    intro k hk H locs hI hS ls hl
    have hk4 : k < 4 := by omega
    refine lv_iload_n hx hb dX3_scoreFrom_4 rfl (lv_at hl 0 rfl) ?_
    refine lv_iconst (v := 4) hx hb dX3_scoreFrom_5 (by decide) ?_
    refine lv_icmp_ge (tgt := 36) hx hb dX3_scoreFrom_6 (by decide) (fun c6_2 => ?_) (fun c6_2 => ?_)
    · exact absurd c6_2 (i_nge rfl (show (4 : Int32) = nI 4 from rfl) (by omega) (by omega))
    refine lv_iload_n hx hb dX3_scoreFrom_9 rfl (lv_at hl 3 rfl) ?_
    refine lv_iload_n hx hb dX3_scoreFrom_10 rfl (lv_at hl 0 rfl) ?_
    refine ro_i (va_runS (As := [.int v, .int (nI k)]) (rest := []) ⟨hx, hb, hml, hown, hts⟩ (c_X3_holds l v (nI k)) (va_cwS 2 hts gX3_scoreFrom_X3_holds rfl rfl rfl (by decide +kernel) ⟨Nat.le_of_ble_eq_true rfl, Nat.le_of_ble_eq_true rfl⟩) preT rfl rfl hl.1 rfl (lv_room (Nat.le_of_ble_eq_true rfl)) dX3_scoreFrom_11 ⟨Nat.le_of_ble_eq_true rfl, Nat.le_of_ble_eq_true rfl⟩) hI hS (fun H locs hI hS => ?_)
    refine r_ifeq_b (tgt := 30) hx hb dX3_scoreFrom_14 (by decide) (fun c14_3 => ?_) (fun c14_3 => ?_)
    · refine lv_iinc (v := nI (k + 1)) (lv' := [(3, .int (nI (k + 1))), (2, .float (scF (A 0) v k)), (0, .ref (q 0)), (1, .int v)]) hx hb dX3_scoreFrom_30 hl (k := 0) rfl (nI_1 k) (by decide) rfl (fun ls hl => ?_)
      refine lv_goto (tgt := 4) hx hb dX3_scoreFrom_33 (by decide) ?_
      rw [show (scF (A 0) v k) = (scF (A 0) v (k + 1)) from (by first | (simp only [scF, c6_2, c14_3, ↓reduceIte, Bool.false_eq_true, reduceCtorEq]; done) | simp [scF, c6_2, c14_3])] at hl
      exact ih4 (k + 1) (by omega) _ _ hI hS ls (lv_sub hl [0, 1, 2, 3] rfl)
    · refine lv_fload_n hx hb dX3_scoreFrom_17 rfl (lv_at hl 1 rfl) ?_
      refine lv_aload_n hx hb dX3_scoreFrom_18 rfl (lv_at hl 2 rfl) ?_
      refine r_get (C := RX3) (T := TX3) (N := 7) (k := 3) (q0 := 0) (v := .ref (q 4)) hx hb hts hi3 hown hI rfl rfl (by decide) (hts (.fieldLink RX3 30 "Buildlots" "weights" "[I") (List.mem_of_getElem? (i := 1) rfl)) rfl rfl dX3_scoreFrom_19 ?_
      refine lv_iload_n hx hb dX3_scoreFrom_22 rfl (lv_at hl 0 rfl) ?_
      refine r_iald (q0 := 4) (j := k) (n := 4) (f := (A 0)) hx hb hI rfl rfl (by omega) (by decide) dX3_scoreFrom_23 ?_
      refine lv_i2f hx hb dX3_scoreFrom_24 ?_
      refine lv_ldcf (v := 1120403456) hx hb hown (hts (.constantFloat RX3 230 (1120403456)) (List.mem_of_getElem? (i := 2) rfl)) dX3_scoreFrom_25 ?_
      refine lv_fdiv hx hb dX3_scoreFrom_27 (nn_div _) ?_
      refine lv_fadd hx hb dX3_scoreFrom_28 (nn_sc _ _ _) ?_
      refine lv_fstore_n (lv' := [(2, .float (FP.fadd (scF (A 0) v k) (FP.fdiv (FP.i2f (A 0 k)) f100))), (3, .int (nI k)), (0, .ref (q 0)), (1, .int v)]) hx hb dX3_scoreFrom_29 rfl hl (by decide) rfl (fun ls hl => ?_)
      refine lv_iinc (v := nI (k + 1)) (lv' := [(3, .int (nI (k + 1))), (2, .float (FP.fadd (scF (A 0) v k) (FP.fdiv (FP.i2f (A 0 k)) f100))), (0, .ref (q 0)), (1, .int v)]) hx hb dX3_scoreFrom_30 hl (k := 1) rfl (nI_1 k) (by decide) rfl (fun ls hl => ?_)
      refine lv_goto (tgt := 4) hx hb dX3_scoreFrom_33 (by decide) ?_
      rw [show (FP.fadd (scF (A 0) v k) (FP.fdiv (FP.i2f (A 0 k)) f100)) = (scF (A 0) v (k + 1)) from (by first | (simp only [scF, c6_2, c14_3, ↓reduceIte, Bool.false_eq_true, reduceCtorEq]; done) | simp [scF, c6_2, c14_3])] at hl
      exact ih4 (k + 1) (by omega) _ _ hI hS ls (lv_sub hl [0, 1, 2, 3] rfl)

set_option maxHeartbeats 4000000 in
set_option maxRecDepth 100000 in
theorem c_X3_suffices (l : Launch) (D : va_G) (cy : Nat → ClassId) (h0 : Nat) (q : Nat → Nat) (A : Nat → Nat → Int32) (S : Nat → Int32) (v : Int32) (b : Int32) (j : Nat) (hj : j < 24) (hk : b = nI j) (ht : ∃ t, t < 5 ∧ A 5 j = nI t) : Met l yX3_suffices wsX3_suffices (rmO 4 64) (va_Pc [.ref (q 0), .int v, .int b] (pI D cy h0 (wX cy q A S))) (roI (bI (sufB A v j))) 0 0 nof := by
  refine Met.ofW (cc := cX3_suffices) (maxL := 3) (ret := (some .boolean)) (by decide) rfl ?_
  intro p e s m args below meth c s₁ B hml hv
  obtain ⟨rfl, hI⟩ := hv
  have hx := B.exec
  have hb := B.bytes
  have hr := B.returns
  have hts := atoms_spec (ws := wsX3_suffices) B.pre
  have hown : s.vm.findClass RX3 = some m.cls := findClass_of_methodNamed B.named
  have hlk := B.notSynchronized
  have hI : IH D cy h0 (wX cy q A S) s s.heap := hI
  have hG := hI.1
  have hS : va_S nof s.heap s.heap [] := va_S.rf
  have hi0 : ∀ w ∈ wsX00, w ∈ wsX3_suffices := by decide +kernel
  have hi3 : ∀ w ∈ wsX30, w ∈ wsX3_suffices := by decide +kernel
  have hl := lv_entry ([.ref (q 0), .int v, .int b]) (n := 3) (Nat.le_of_ble_eq_true rfl)
  rw [lg_entry_eq]
  generalize (lg_sl ([.ref (q 0), .int v, .int b]) ++ List.replicate (3 - (lg_sl ([.ref (q 0), .int v, .int b])).length) Slot.unset).toArray = ls at hl ⊢
  have hl : lv_has ls 3 [(0, .ref (q 0)), (1, .int v), (2, .int b)] := hl
  obtain ⟨hjt, hkt⟩ := ix_c (by decide) ht
  refine lv_aload_n hx hb dX3_suffices_0 rfl (lv_at hl 0 rfl) ?_
  refine lv_iload_n hx hb dX3_suffices_1 rfl (lv_at hl 1 rfl) ?_
  refine ro_f (va_runV (As := [.int v]) (rest := []) ⟨hx, hb, hml, hown, hts⟩ (c_X3_scoreFrom l D cy h0 q A S v) (cwV 1 hts gX3_suffices_X3_scoreFrom rfl rfl rfl (by decide +kernel) ⟨Nat.le_of_ble_eq_true rfl, Nat.le_of_ble_eq_true rfl⟩) (hI.preV (k0 := 0) rfl rfl) rfl rfl hl.1 rfl (lv_room (Nat.le_of_ble_eq_true rfl)) dX3_suffices_2 ⟨Nat.le_of_ble_eq_true rfl, Nat.le_of_ble_eq_true rfl⟩) hI hS (fun H locs hI hS => ?_)
  refine lv_aload_n hx hb dX3_suffices_5 rfl (lv_at hl 0 rfl) ?_
  refine r_get (C := RX3) (T := TX3) (N := 7) (k := 4) (q0 := 0) (v := .ref (q 5)) hx hb hts hi3 hown hI rfl rfl (by decide) (hts (.fieldLink RX3 34 "Buildlots" "thresholds" "[I") (List.mem_of_getElem? (i := 1) rfl)) rfl rfl dX3_suffices_6 ?_
  refine lv_aload_n hx hb dX3_suffices_9 rfl (lv_at hl 0 rfl) ?_
  refine r_get (C := RX3) (T := TX3) (N := 7) (k := 1) (q0 := 0) (v := .ref (q 2)) hx hb hts hi3 hown hI rfl rfl (by decide) (hts (.fieldLink RX3 19 "Buildlots" "builds" "LBuildlots$Builds;") (List.mem_of_getElem? (i := 2) rfl)) rfl rfl dX3_suffices_10 ?_
  refine r_getN (C := RX0) (T := TX0) (N := 10) (k := 0) (q0 := 2) (v := .ref (q 9)) hx hb hts hi0 hown hI rfl rfl (by decide) (List.mem_of_getElem? (i := 1) rfl) rfl rfl dX3_suffices_13 ?_
  refine lv_iload_n hx hb dX3_suffices_16 rfl (lv_at hl 2 rfl) ?_
  refine r_iald (q0 := 9) (j := j) (n := 24) (f := (A 5)) hx hb hI rfl hk hj (by decide) dX3_suffices_17 ?_
  refine r_iald (q0 := 5) (j := (ix (A 5 j))) (n := 5) (f := (A 1)) hx hb hI rfl hkt hjt (by decide) dX3_suffices_18 ?_
  refine lv_i2f hx hb dX3_suffices_19 ?_
  refine lv_ldcf (v := 1120403456) hx hb hown (hts (.constantFloat RX3 230 (1120403456)) (List.mem_of_getElem? (i := 3) rfl)) dX3_suffices_20 ?_
  refine lv_fdiv hx hb dX3_suffices_22 (nn_div _) ?_
  refine lv_fcmp hx hb dX3_suffices_23 ?_
  refine lv_if_lt (tgt := 31) hx hb dX3_suffices_24 (by decide) (fun c24_1 => ?_) (fun c24_1 => ?_)
  · refine lv_iconst (v := 0) hx hb dX3_suffices_31 (by decide) ?_
    exact end_roz hx hb hr rfl (by simp [sufB, bI, c24_1, ]) hS dX3_suffices_32 hlk
  · refine lv_iconst (v := 1) hx hb dX3_suffices_27 (by decide) ?_
    refine lv_goto (tgt := 32) hx hb dX3_suffices_28 (by decide) ?_
    exact end_roz hx hb hr rfl (by simp [sufB, bI, c24_1, ]) hS dX3_suffices_32 hlk

set_option maxHeartbeats 4000000 in
set_option maxRecDepth 100000 in
theorem c_X3_trustedBuilds (l : Launch) (D : va_G) (cy : Nat → ClassId) (h0 : Nat) (q : Nat → Nat) (A : Nat → Nat → Int32) (S : Nat → Int32) (nb : Nat) (hnb : nb ≤ 24) (hcb : S 5 = nI nb) (htn : ∀ b, b < nb → ∃ t, t < 5 ∧ A 5 b = nI t) : Met l yX3_trustedBuilds wsX3_trustedBuilds (rmO 5 86) (va_Pc [.ref (q 0)] (pI D cy h0 (wX cy q A S))) (roI (tbF A nb)) 0 0 nof := by
  refine Met.ofW (cc := cX3_trustedBuilds) (maxL := 3) (ret := (some .int)) (by decide) rfl ?_
  intro p e s m args below meth c s₁ B hml hv
  obtain ⟨rfl, hI⟩ := hv
  have hx := B.exec
  have hb := B.bytes
  have hr := B.returns
  have hts := atoms_spec (ws := wsX3_trustedBuilds) B.pre
  have hown : s.vm.findClass RX3 = some m.cls := findClass_of_methodNamed B.named
  have hlk := B.notSynchronized
  have hI : IH D cy h0 (wX cy q A S) s s.heap := hI
  have hG := hI.1
  have hS : va_S nof s.heap s.heap [] := va_S.rf
  have hi0 : ∀ w ∈ wsX00, w ∈ wsX3_trustedBuilds := by decide +kernel
  have hi3 : ∀ w ∈ wsX30, w ∈ wsX3_trustedBuilds := by decide +kernel
  have hl := lv_entry ([.ref (q 0)]) (n := 3) (Nat.le_of_ble_eq_true rfl)
  rw [lg_entry_eq]
  generalize (lg_sl ([.ref (q 0)]) ++ List.replicate (3 - (lg_sl ([.ref (q 0)])).length) Slot.unset).toArray = ls at hl ⊢
  have hl : lv_has ls 3 [(0, .ref (q 0))] := hl
  refine lv_iconst (v := 0) hx hb dX3_trustedBuilds_0 (by decide) ?_
  refine lv_istore_n (lv' := [(1, .int 0), (0, .ref (q 0))]) hx hb dX3_trustedBuilds_1 rfl hl (by decide) rfl (fun ls hl => ?_)
  refine lv_iconst (v := 0) hx hb dX3_trustedBuilds_2 (by decide) ?_
  refine lv_istore_n (lv' := [(2, .int 0), (1, .int 0), (0, .ref (q 0))]) hx hb dX3_trustedBuilds_3 rfl hl (by decide) rfl (fun ls hl => ?_)
  suffices KL4 : ∀ (n9 k : Nat), k + n9 = nb → ∀ (H : Heap) (locs : List Loc), IH D cy h0 (wX cy q A S) s H → va_S (nof) s.heap H locs → ∀ ls : Array Slot, lv_has ls 3 [(2, .int (nI k)), (1, .int (tbF A k)), (0, .ref (q 0))] → W p l e (headSpec wsX3_trustedBuilds (rmO 5 86)).room s m ([.ref (q 0)]).toArray below meth c H locs 0 0 (MQ below (roI (tbF A nb)) ([.ref (q 0)]).toArray s 0 0 nof) (F0 m 4 ls []) by
    exact KL4 nb 0 (by omega) _ _ hI hS ls ((lv_sub hl [0, 1, 2] rfl))
  intro n9
  induction n9 with
  | zero =>
    intro k hk H locs hI hS ls hl
    have hk : nb = k := by omega
    subst hk
    refine lv_iload_n hx hb dX3_trustedBuilds_4 rfl (lv_at hl 0 rfl) ?_
    refine lv_aload_n hx hb dX3_trustedBuilds_5 rfl (lv_at hl 2 rfl) ?_
    refine r_get (C := RX3) (T := TX3) (N := 7) (k := 1) (q0 := 0) (v := .ref (q 2)) hx hb hts hi3 hown hI rfl rfl (by decide) (hts (.fieldLink RX3 19 "Buildlots" "builds" "LBuildlots$Builds;") (List.mem_of_getElem? (i := 1) rfl)) rfl rfl dX3_trustedBuilds_6 ?_
    refine r_getN (C := RX0) (T := TX0) (N := 10) (k := 9) (q0 := 2) (v := .int (S 5)) hx hb hts hi0 hown hI rfl rfl (by decide) (List.mem_of_getElem? (i := 0) rfl) rfl rfl dX3_trustedBuilds_9 ?_
    refine lv_icmp_ge (tgt := 45) hx hb dX3_trustedBuilds_12 (by decide) (fun c12_1 => ?_) (fun c12_1 => ?_)
    rotate_left
    · exact absurd (i_ge rfl hcb (Nat.le_refl _) (by omega)) c12_1
    refine lv_iload_n hx hb dX3_trustedBuilds_45 rfl (lv_at hl 1 rfl) ?_
    exact end_roi hx hb hr rfl hS dX3_trustedBuilds_46 hlk
  | succ n9 ih4 =>
    intro k hk H locs hI hS ls hl
    have hk4 : k < nb := by omega
    refine lv_iload_n hx hb dX3_trustedBuilds_4 rfl (lv_at hl 0 rfl) ?_
    refine lv_aload_n hx hb dX3_trustedBuilds_5 rfl (lv_at hl 2 rfl) ?_
    refine r_get (C := RX3) (T := TX3) (N := 7) (k := 1) (q0 := 0) (v := .ref (q 2)) hx hb hts hi3 hown hI rfl rfl (by decide) (hts (.fieldLink RX3 19 "Buildlots" "builds" "LBuildlots$Builds;") (List.mem_of_getElem? (i := 1) rfl)) rfl rfl dX3_trustedBuilds_6 ?_
    refine r_getN (C := RX0) (T := TX0) (N := 10) (k := 9) (q0 := 2) (v := .int (S 5)) hx hb hts hi0 hown hI rfl rfl (by decide) (List.mem_of_getElem? (i := 0) rfl) rfl rfl dX3_trustedBuilds_9 ?_
    refine lv_icmp_ge (tgt := 45) hx hb dX3_trustedBuilds_12 (by decide) (fun c12_2 => ?_) (fun c12_2 => ?_)
    · exact absurd c12_2 (i_nge rfl hcb (by omega) (by omega))
    refine lv_aload_n hx hb dX3_trustedBuilds_15 rfl (lv_at hl 2 rfl) ?_
    refine lv_aload_n hx hb dX3_trustedBuilds_16 rfl (lv_at hl 2 rfl) ?_
    refine r_get (C := RX3) (T := TX3) (N := 7) (k := 1) (q0 := 0) (v := .ref (q 2)) hx hb hts hi3 hown hI rfl rfl (by decide) (hts (.fieldLink RX3 19 "Buildlots" "builds" "LBuildlots$Builds;") (List.mem_of_getElem? (i := 1) rfl)) rfl rfl dX3_trustedBuilds_17 ?_
    refine r_getN (C := RX0) (T := TX0) (N := 10) (k := 5) (q0 := 2) (v := .ref (q 14)) hx hb hts hi0 hown hI rfl rfl (by decide) (List.mem_of_getElem? (i := 5) rfl) rfl rfl dX3_trustedBuilds_20 ?_
    refine lv_iload_n hx hb dX3_trustedBuilds_23 rfl (lv_at hl 0 rfl) ?_
    refine r_iald (q0 := 14) (j := k) (n := 24) (f := (A 10)) hx hb hI rfl rfl (by omega) (by decide) dX3_trustedBuilds_24 ?_
    refine lv_iload_n hx hb dX3_trustedBuilds_25 rfl (lv_at hl 0 rfl) ?_
    refine ro_i (va_runV (As := [.int (A 10 k), .int (nI k)]) (rest := []) ⟨hx, hb, hml, hown, hts⟩ (c_X3_suffices l D cy h0 q A S (A 10 k) (nI k) k (by omega) rfl (htn k (by omega))) (cwV 2 hts gX3_trustedBuilds_X3_suffices rfl rfl rfl (by decide +kernel) ⟨Nat.le_of_ble_eq_true rfl, Nat.le_of_ble_eq_true rfl⟩) (hI.preV (k0 := 0) rfl rfl) rfl rfl hl.1 rfl (lv_room (Nat.le_of_ble_eq_true rfl)) dX3_trustedBuilds_26 ⟨Nat.le_of_ble_eq_true rfl, Nat.le_of_ble_eq_true rfl⟩) hI hS (fun H locs hI hS => ?_)
    refine r_ifeq_b (tgt := 39) hx hb dX3_trustedBuilds_29 (by decide) (fun c29_3 => ?_) (fun c29_3 => ?_)
    · refine lv_iinc (v := nI (k + 1)) (lv' := [(2, .int (nI (k + 1))), (1, .int (tbF A k)), (0, .ref (q 0))]) hx hb dX3_trustedBuilds_39 hl (k := 0) rfl (nI_1 k) (by decide) rfl (fun ls hl => ?_)
      refine lv_goto (tgt := 4) hx hb dX3_trustedBuilds_42 (by decide) ?_
      rw [show (tbF A k) = (tbF A (k + 1)) from (by first | (simp only [tbF, c12_2, c29_3, ↓reduceIte, Bool.false_eq_true, reduceCtorEq]; done) | simp [tbF, c12_2, c29_3])] at hl
      exact ih4 (k + 1) (by omega) _ _ hI hS ls (lv_sub hl [0, 1, 2] rfl)
    · refine lv_iload_n hx hb dX3_trustedBuilds_32 rfl (lv_at hl 1 rfl) ?_
      refine lv_iload_n hx hb dX3_trustedBuilds_33 rfl (lv_at hl 0 rfl) ?_
      refine ro_i (va_runS (As := [.int (nI k)]) (rest := [.int (tbF A k)]) ⟨hx, hb, hml, hown, hts⟩ (c_X3_only l (nI k)) (va_cwS 1 hts gX3_trustedBuilds_X3_only rfl rfl rfl (by decide +kernel) ⟨Nat.le_of_ble_eq_true rfl, Nat.le_of_ble_eq_true rfl⟩) preT rfl rfl hl.1 rfl (lv_room (Nat.le_of_ble_eq_true rfl)) dX3_trustedBuilds_34 ⟨Nat.le_of_ble_eq_true rfl, Nat.le_of_ble_eq_true rfl⟩) hI hS (fun H locs hI hS => ?_)
      refine lv_ior hx hb dX3_trustedBuilds_37 ?_
      refine lv_istore_n (lv' := [(1, .int ((tbF A k) ||| (ly (nI k)))), (2, .int (nI k)), (0, .ref (q 0))]) hx hb dX3_trustedBuilds_38 rfl hl (by decide) rfl (fun ls hl => ?_)
      refine lv_iinc (v := nI (k + 1)) (lv' := [(2, .int (nI (k + 1))), (1, .int ((tbF A k) ||| (ly (nI k)))), (0, .ref (q 0))]) hx hb dX3_trustedBuilds_39 hl (k := 1) rfl (nI_1 k) (by decide) rfl (fun ls hl => ?_)
      refine lv_goto (tgt := 4) hx hb dX3_trustedBuilds_42 (by decide) ?_
      rw [show ((tbF A k) ||| (ly (nI k))) = (tbF A (k + 1)) from (by first | (simp only [tbF, c12_2, c29_3, ↓reduceIte, Bool.false_eq_true, reduceCtorEq]; done) | simp [tbF, c12_2, c29_3])] at hl
      exact ih4 (k + 1) (by omega) _ _ hI hS ls (lv_sub hl [0, 1, 2] rfl)

set_option maxHeartbeats 4000000 in
set_option maxRecDepth 100000 in
theorem c_X3_hasExpired (l : Launch) (D : va_G) (cy : Nat → ClassId) (h0 : Nat) (q : Nat → Nat) (A : Nat → Nat → Int32) (S : Nat → Int32) (x : Int32) (j : Nat) (hj : j < 3) (hk : x = nI j) : Met l yX3_hasExpired wsX3_hasExpired (rmO 1 0) (va_Pc [.ref (q 0), .int x] (pI D cy h0 (wX cy q A S))) (roI (bI (expB A S j))) 0 0 nof := by
  refine Met.ofW (cc := cX3_hasExpired) (maxL := 3) (ret := (some .boolean)) (by decide) rfl ?_
  intro p e s m args below meth c s₁ B hml hv
  obtain ⟨rfl, hI⟩ := hv
  have hx := B.exec
  have hb := B.bytes
  have hr := B.returns
  have hts := atoms_spec (ws := wsX3_hasExpired) B.pre
  have hown : s.vm.findClass RX3 = some m.cls := findClass_of_methodNamed B.named
  have hlk := B.notSynchronized
  have hI : IH D cy h0 (wX cy q A S) s s.heap := hI
  have hG := hI.1
  have hS : va_S nof s.heap s.heap [] := va_S.rf
  have hi2 : ∀ w ∈ wsX20, w ∈ wsX3_hasExpired := by decide +kernel
  have hi3 : ∀ w ∈ wsX30, w ∈ wsX3_hasExpired := by decide +kernel
  have hl := lv_entry ([.ref (q 0), .int x]) (n := 3) (Nat.le_of_ble_eq_true rfl)
  rw [lg_entry_eq]
  generalize (lg_sl ([.ref (q 0), .int x]) ++ List.replicate (3 - (lg_sl ([.ref (q 0), .int x])).length) Slot.unset).toArray = ls at hl ⊢
  have hl : lv_has ls 3 [(0, .ref (q 0)), (1, .int x)] := hl
  refine lv_aload_n hx hb dX3_hasExpired_0 rfl (lv_at hl 0 rfl) ?_
  refine r_get (C := RX3) (T := TX3) (N := 7) (k := 2) (q0 := 0) (v := .ref (q 3)) hx hb hts hi3 hown hI rfl rfl (by decide) (hts (.fieldLink RX3 26 "Buildlots" "mirrors" "LBuildlots$Mirrors;") (List.mem_of_getElem? (i := 1) rfl)) rfl rfl dX3_hasExpired_1 ?_
  refine r_getN (C := RX2) (T := TX2) (N := 3) (k := 0) (q0 := 3) (v := .ref (q 17)) hx hb hts hi2 hown hI rfl rfl (by decide) (List.mem_of_getElem? (i := 13) rfl) rfl rfl dX3_hasExpired_4 ?_
  refine lv_iload_n hx hb dX3_hasExpired_7 rfl (lv_at hl 1 rfl) ?_
  refine r_iald (q0 := 17) (j := j) (n := 3) (f := (A 13)) hx hb hI rfl hk hj (by decide) dX3_hasExpired_8 ?_
  refine lv_istore_n (lv' := [(2, .int (A 13 j)), (0, .ref (q 0)), (1, .int x)]) hx hb dX3_hasExpired_9 rfl hl (by decide) rfl (fun ls hl => ?_)
  refine lv_iload_n hx hb dX3_hasExpired_10 rfl (lv_at hl 0 rfl) ?_
  refine lv_iconst (v := (-1)) hx hb dX3_hasExpired_11 (by decide) ?_
  refine lv_icmp_eq (tgt := 28) hx hb dX3_hasExpired_12 (by decide) (fun c12_1 => ?_) (fun c12_1 => ?_)
  · refine lv_iconst (v := 1) hx hb dX3_hasExpired_28 (by decide) ?_
    refine lv_goto (tgt := 33) hx hb dX3_hasExpired_29 (by decide) ?_
    exact end_roz hx hb hr rfl (by simp [expB, bI, c12_1, ]) hS dX3_hasExpired_33 hlk
  · refine lv_aload_n hx hb dX3_hasExpired_15 rfl (lv_at hl 1 rfl) ?_
    refine r_get (C := RX3) (T := TX3) (N := 7) (k := 6) (q0 := 0) (v := .int (S 1)) hx hb hts hi3 hown hI rfl rfl (by decide) (hts (.fieldLink RX3 41 "Buildlots" "today" "I") (List.mem_of_getElem? (i := 2) rfl)) rfl rfl dX3_hasExpired_16 ?_
    refine lv_iload_n hx hb dX3_hasExpired_19 rfl (lv_at hl 0 rfl) ?_
    refine lv_isub hx hb dX3_hasExpired_20 ?_
    refine lv_aload_n hx hb dX3_hasExpired_21 rfl (lv_at hl 1 rfl) ?_
    refine r_get (C := RX3) (T := TX3) (N := 7) (k := 5) (q0 := 0) (v := .int (S 0)) hx hb hts hi3 hown hI rfl rfl (by decide) (hts (.fieldLink RX3 37 "Buildlots" "expiry" "I") (List.mem_of_getElem? (i := 3) rfl)) rfl rfl dX3_hasExpired_22 ?_
    refine lv_icmp_le (tgt := 32) hx hb dX3_hasExpired_25 (by decide) (fun c25_2 => ?_) (fun c25_2 => ?_)
    · refine lv_iconst (v := 0) hx hb dX3_hasExpired_32 (by decide) ?_
      exact end_roz hx hb hr rfl (by simp [expB, bI, c12_1, c25_2, ]) hS dX3_hasExpired_33 hlk
    · refine lv_iconst (v := 1) hx hb dX3_hasExpired_28 (by decide) ?_
      refine lv_goto (tgt := 33) hx hb dX3_hasExpired_29 (by decide) ?_
      exact end_roz hx hb hr rfl (by simp [expB, bI, c12_1, c25_2, ]) hS dX3_hasExpired_33 hlk

set_option maxHeartbeats 4000000 in
set_option maxRecDepth 100000 in
theorem c_J6_bitCount_0f7a4 (l : Launch) (x : Int32) : Met l yJ6_bitCount_0f7a4 wsJ6_bitCount_0f7a4 (rmO 1 0) (va_Pc [.int x] (fun _ => True)) (roI (bcF x)) 0 0 nof := by
  refine Met.ofW (cc := cJ6_bitCount_0f7a4) (maxL := 1) (ret := (some .int)) (by decide) rfl ?_
  intro p e s m args below meth c s₁ B hml hv
  obtain ⟨rfl, hI⟩ := hv
  have hx := B.exec
  have hb := B.bytes
  have hr := B.returns
  have hts := atoms_spec (ws := wsJ6_bitCount_0f7a4) B.pre
  have hown : s.vm.findClass RJ6 = some m.cls := findClass_of_methodNamed B.named
  have hlk := B.notSynchronized
  have hS : va_S nof s.heap s.heap [] := va_S.rf
  have hl := lv_entry ([.int x]) (n := 1) (Nat.le_of_ble_eq_true rfl)
  rw [lg_entry_eq]
  generalize (lg_sl ([.int x]) ++ List.replicate (1 - (lg_sl ([.int x])).length) Slot.unset).toArray = ls at hl ⊢
  have hl : lv_has ls 1 [(0, .int x)] := hl
  refine lv_iload_n hx hb dJ6_bitCount_0f7a4_0 rfl (lv_at hl 0 rfl) ?_
  refine lv_iload_n hx hb dJ6_bitCount_0f7a4_1 rfl (lv_at hl 0 rfl) ?_
  refine lv_iconst (v := 1) hx hb dJ6_bitCount_0f7a4_2 (by decide) ?_
  refine lv_iushr hx hb dJ6_bitCount_0f7a4_3 rfl ?_
  refine lv_ldcw (v := 1431655765) hx hb hown (hts (.constant RJ6 265 (1431655765)) (List.mem_of_getElem? (i := 1) rfl)) dJ6_bitCount_0f7a4_4 ?_
  refine lv_iand hx hb dJ6_bitCount_0f7a4_7 ?_
  refine lv_isub hx hb dJ6_bitCount_0f7a4_8 ?_
  rw [show (x - (((x.toUInt32 >>> ((1 : Int32).toUInt32 &&& Int32.toUInt32 31)).toInt32) &&& 1431655765)) = bc1 x from rfl]
  refine lv_istore_n (lv' := [(0, .int (bc1 x))]) hx hb dJ6_bitCount_0f7a4_9 rfl hl (by decide) rfl (fun ls hl => ?_)
  refine lv_iload_n hx hb dJ6_bitCount_0f7a4_10 rfl (lv_at hl 0 rfl) ?_
  refine lv_ldcw (v := 858993459) hx hb hown (hts (.constant RJ6 266 (858993459)) (List.mem_of_getElem? (i := 2) rfl)) dJ6_bitCount_0f7a4_11 ?_
  refine lv_iand hx hb dJ6_bitCount_0f7a4_14 ?_
  refine lv_iload_n hx hb dJ6_bitCount_0f7a4_15 rfl (lv_at hl 0 rfl) ?_
  refine lv_iconst (v := 2) hx hb dJ6_bitCount_0f7a4_16 (by decide) ?_
  refine lv_iushr hx hb dJ6_bitCount_0f7a4_17 rfl ?_
  refine lv_ldcw (v := 858993459) hx hb hown (hts (.constant RJ6 266 (858993459)) (List.mem_of_getElem? (i := 2) rfl)) dJ6_bitCount_0f7a4_18 ?_
  refine lv_iand hx hb dJ6_bitCount_0f7a4_21 ?_
  refine lv_iadd hx hb dJ6_bitCount_0f7a4_22 ?_
  rw [show (((bc1 x) &&& 858993459) + ((((bc1 x).toUInt32 >>> ((2 : Int32).toUInt32 &&& Int32.toUInt32 31)).toInt32) &&& 858993459)) = bc2 (bc1 x) from rfl]
  refine lv_istore_n (lv' := [(0, .int (bc2 (bc1 x)))]) hx hb dJ6_bitCount_0f7a4_23 rfl hl (by decide) rfl (fun ls hl => ?_)
  refine lv_iload_n hx hb dJ6_bitCount_0f7a4_24 rfl (lv_at hl 0 rfl) ?_
  refine lv_iload_n hx hb dJ6_bitCount_0f7a4_25 rfl (lv_at hl 0 rfl) ?_
  refine lv_iconst (v := 4) hx hb dJ6_bitCount_0f7a4_26 (by decide) ?_
  refine lv_iushr hx hb dJ6_bitCount_0f7a4_27 rfl ?_
  refine lv_iadd hx hb dJ6_bitCount_0f7a4_28 ?_
  refine lv_ldcw (v := 252645135) hx hb hown (hts (.constant RJ6 267 (252645135)) (List.mem_of_getElem? (i := 3) rfl)) dJ6_bitCount_0f7a4_29 ?_
  refine lv_iand hx hb dJ6_bitCount_0f7a4_32 ?_
  rw [show (((bc2 (bc1 x)) + (((bc2 (bc1 x)).toUInt32 >>> ((4 : Int32).toUInt32 &&& Int32.toUInt32 31)).toInt32)) &&& 252645135) = bc3 (bc2 (bc1 x)) from rfl]
  refine lv_istore_n (lv' := [(0, .int (bc3 (bc2 (bc1 x))))]) hx hb dJ6_bitCount_0f7a4_33 rfl hl (by decide) rfl (fun ls hl => ?_)
  refine lv_iload_n hx hb dJ6_bitCount_0f7a4_34 rfl (lv_at hl 0 rfl) ?_
  refine lv_iload_n hx hb dJ6_bitCount_0f7a4_35 rfl (lv_at hl 0 rfl) ?_
  refine lv_bipush (v := 8) hx hb dJ6_bitCount_0f7a4_36 (by decide) ?_
  refine lv_iushr hx hb dJ6_bitCount_0f7a4_38 rfl ?_
  refine lv_iadd hx hb dJ6_bitCount_0f7a4_39 ?_
  rw [show ((bc3 (bc2 (bc1 x))) + (((bc3 (bc2 (bc1 x))).toUInt32 >>> ((8 : Int32).toUInt32 &&& Int32.toUInt32 31)).toInt32)) = bc4 (bc3 (bc2 (bc1 x))) from rfl]
  refine lv_istore_n (lv' := [(0, .int (bc4 (bc3 (bc2 (bc1 x)))))]) hx hb dJ6_bitCount_0f7a4_40 rfl hl (by decide) rfl (fun ls hl => ?_)
  refine lv_iload_n hx hb dJ6_bitCount_0f7a4_41 rfl (lv_at hl 0 rfl) ?_
  refine lv_iload_n hx hb dJ6_bitCount_0f7a4_42 rfl (lv_at hl 0 rfl) ?_
  refine lv_bipush (v := 16) hx hb dJ6_bitCount_0f7a4_43 (by decide) ?_
  refine lv_iushr hx hb dJ6_bitCount_0f7a4_45 rfl ?_
  refine lv_iadd hx hb dJ6_bitCount_0f7a4_46 ?_
  rw [show ((bc4 (bc3 (bc2 (bc1 x)))) + (((bc4 (bc3 (bc2 (bc1 x)))).toUInt32 >>> ((16 : Int32).toUInt32 &&& Int32.toUInt32 31)).toInt32)) = bc5 (bc4 (bc3 (bc2 (bc1 x)))) from rfl]
  refine lv_istore_n (lv' := [(0, .int (bc5 (bc4 (bc3 (bc2 (bc1 x))))))]) hx hb dJ6_bitCount_0f7a4_47 rfl hl (by decide) rfl (fun ls hl => ?_)
  refine lv_iload_n hx hb dJ6_bitCount_0f7a4_48 rfl (lv_at hl 0 rfl) ?_
  refine lv_bipush (v := 63) hx hb dJ6_bitCount_0f7a4_49 (by decide) ?_
  refine lv_iand hx hb dJ6_bitCount_0f7a4_51 ?_
  exact end_roi hx hb hr rfl hS dJ6_bitCount_0f7a4_52 hlk

