/-! Scores: floats that are 0 or normal, their bits; doubleBits, floatBits, the JDK's own; scoreBits, scoreSumBits, the model's build. Rows by wip/whole/gen/part31.py. -/
def flt (E t : Nat) : UInt32 := UInt32.ofNat (E * 2 ^ 23 + t)
theorem flt_nat {E t : Nat} (hE : E ≤ 254) (ht : t < 2 ^ 23) : (flt E t).toNat = E * 2 ^ 23 + t := by
  unfold flt
  rw [UInt32.toNat_ofNat']
  exact Nat.mod_eq_of_lt (by omega)
theorem flt_val {E t : Nat} (h1 : 1 ≤ E) (hE : E ≤ 254) (ht : t < 2 ^ 23) : FP.Core.val32 (flt E t) = .fin false (2 ^ 23 + t) ((E : Int) - 150) := by
  unfold FP.Core.val32
  rw [flt_nat hE ht]
  have e1 : E * 2 ^ 23 + t = FP.Core.assemble FP.Core.b32 false E t := by
    show _ = ((false.toNat) * FP.Core.b32.exps + E) * FP.Core.b32.tails + t
    rw [FP.Core.tails_b32]; simp
  have hx : FP.Core.b32.exps = 256 := by decide
  rw [e1, FP.Core.decode_assemble _ _ _ _ (by rw [hx]; omega) (by rw [FP.Core.tails_b32]; exact ht), hx, if_neg (by omega), if_neg (by omega), FP.Core.tails_b32, FP.Core.qmin_b32]
  congr 1
  omega
theorem flt_ne {E t : Nat} (h1 : 1 ≤ E) (hE : E ≤ 254) (ht : t < 2 ^ 23) : FP.Core.val32 (flt E t) ≠ .nan := by rw [flt_val h1 hE ht]; exact FP.Core.Datum.noConfusion
theorem flt_f2d {E t : Nat} (h1 : 1 ≤ E) (hE : E ≤ 254) (ht : t < 2 ^ 23) : FP.f2d (flt E t) = dbl (E + 896) (t * 2 ^ 29) := by
  rw [FP.f2d_core ((FP.Core.notNaN_iff32 _).mpr (flt_ne h1 hE ht))]
  have h52 : t * 2 ^ 29 < 2 ^ 52 := by omega
  refine (FP.Core.val64_inj (dbl_ne (by omega) (by omega) h52) ?_).symm
  rw [FP.Core.val64_f2d, flt_val h1 hE ht, dbl_val (by omega) (by omega) h52]
  show _ = FP.Core.roundRatio FP.Core.b64 false (2 ^ 23 + t) 1 ((E : Int) - 150)
  refine (FP.Core.roundRatio_exact FP.Core.good_b64 (by decide) (dbl_fits (by omega) (by omega) h52) ?_).symm
  have e1 : ((E : Int) - 150 - (((E + 896 : Nat) : Int) - 1075)).toNat = 29 := by omega
  have e2 : ((((E + 896 : Nat) : Int) - 1075) - ((E : Int) - 150)).toNat = 0 := by omega
  rw [e1, e2]
  omega
theorem flt_pos {E t : Nat} (h1 : 1 ≤ E) (hE : E ≤ 254) (ht : t < 2 ^ 23) : 0 < Op.cmpValue (FP.fcmp (flt E t) FP.fconst0) CmpOp.g := by
  have h := (FP.Core.mono_bits32 (a := flt E t) (b := FP.Core.fconst0) (flt_ne h1 hE ht) (by rw [FP.Core.val32_fconst0]; exact FP.Core.Datum.noConfusion) (by rw [flt_nat hE ht]; omega) (by decide)).2.2
  have h2 : FP.fcmp (flt E t) FP.fconst0 = some .gt := h.mpr (by rw [flt_nat hE ht]; show (0 : Nat) < _; omega)
  rw [h2]; decide
theorem exp_lt {n : Nat} (h : n < 2046) : ¬ 0 ≤ lg_cmp (lN n) 2046 := fun h2 => by
  have h3 : lN 2046 ≤ lN n := (lg_cmp_ge _ _).mp h2
  rw [lN_le (by decide) (by omega)] at h3
  omega
theorem exp_gt {n : Nat} (h : 1 < n) (h2 : n < 2 ^ 31) : ¬ lg_cmp (lN n) 1 ≤ 0 := fun h3 => by
  have h4 : lN n ≤ lN 1 := (lg_cmp_le _ _).mp h3
  rw [lN_le h2 (by decide)] at h4
  omega
theorem halfA {a b k t : Nat} (hab : a = 0 ∨ b = 0) (hk : k < a) (ha : a ≤ 1000) (ht : t < 2 ^ 52) : FP.ddiv (dbl (1023 + (a - k) - b) t) 4611686018427387904 = dbl (1023 + (a - (k + 1)) - b) t := by
  rw [show 1023 + (a - k) - b = (1023 + (a - (k + 1)) - b) + 1 by omega]
  exact dbl_half (by omega) (by omega) ht
theorem nnA {a b k t : Nat} (hab : a = 0 ∨ b = 0) (hk : k < a) (ha : a ≤ 1000) (ht : t < 2 ^ 52) : vf_n64 (FP.ddiv (dbl (1023 + (a - k) - b) t) 4611686018427387904) := by
  rw [show 1023 + (a - k) - b = (1023 + (a - (k + 1)) - b) + 1 by omega]
  exact nn_half (by omega) (by omega) ht
theorem twoB {b j t : Nat} (hj : j < b) (hb : b ≤ 1000) (ht : t < 2 ^ 52) : FP.dmul (dbl (1023 - (b - j)) t) 4611686018427387904 = dbl (1023 - (b - (j + 1))) t := by
  rw [show 1023 - (b - (j + 1)) = (1023 - (b - j)) + 1 by omega]
  exact dbl_two (by omega) (by omega) ht
theorem nnB {b j t : Nat} (hj : j < b) (hb : b ≤ 1000) (ht : t < 2 ^ 52) : vf_n64 (FP.dmul (dbl (1023 - (b - j)) t) 4611686018427387904) := nn_two (by omega) (by omega) ht
theorem subB {a b j : Nat} (hj : j < b) (hb : b ≤ 1000) : lN (1023 + a - j) - 1 = lN (1023 + a - (j + 1)) := by
  have h := lN_sub (a := 1023 + a - j) (b := 1) (by omega)
  rw [show 1023 + a - (j + 1) = 1023 + a - j - 1 by omega]
  exact h
theorem fb_lt {E u : Nat} (hE : E ≤ 254) (h52 : u < 2 ^ 52) : (E + 896) * 2 ^ 52 + u < 2 ^ 64 := by
  have h : (E + 896) * 2 ^ 52 ≤ 1150 * 2 ^ 52 := Nat.mul_le_mul_right _ (by omega)
  exact Nat.lt_of_lt_of_le (Nat.add_lt_add_of_le_of_lt h h52) (by decide)
theorem flt_bits {E t : Nat} (h1 : 1 ≤ E) (hE : E ≤ 254) (ht : t < 2 ^ 23) : ((((dbl (1023 + (E - 127) - (127 - E)) (t * 2 ^ 29)).toInt64.toUInt64 >>> ((29 : Int32).toInt64.toUInt64 &&& Int64.toUInt64 63)).toInt64) - 7516192768).toInt32 = (flt E t).toInt32 := by
  rw [show 1023 + (E - 127) - (127 - E) = E + 896 by omega]
  have h52 : t * 2 ^ 29 < 2 ^ 52 := by omega
  rw [dbl_lN (by omega) h52]
  have h2 := wb_shr (n := (E + 896) * 2 ^ 52 + t * 2 ^ 29) (k := 29) (fb_lt hE h52) (by decide)
  have h3 : (((lN ((E + 896) * 2 ^ 52 + t * 2 ^ 29)).toUInt64 >>> ((29 : Int32).toInt64.toUInt64 &&& Int64.toUInt64 63)).toInt64) = lN ((E + 896) * 2 ^ 23 + t) := by
    refine Eq.trans h2 ?_
    congr 1
    omega
  rw [h3]
  have h4 := lN_sub (a := (E + 896) * 2 ^ 23 + t) (b := 7516192768) (by omega)
  rw [show ((7516192768 : Int64)) = lN 7516192768 from rfl, h4, lN_i]
  rw [show (E + 896) * 2 ^ 23 + t - 7516192768 = E * 2 ^ 23 + t by omega]
  rfl
/-! scores and sums are 0 or well inside the normal numbers -/
def sOK (K : Nat) (x : UInt32) : Prop := x = 0 ∨ (1006632960 ≤ x.toNat ∧ x.toNat < K * 2 ^ 23)
def dOK (K : Nat) (x : UInt64) : Prop := x = 0 ∨ (4575657221408423936 ≤ x.toNat ∧ x.toNat < K * 2 ^ 52)
theorem sOK_mono {K L : Nat} {x : UInt32} (h : sOK K x) (hKL : K ≤ L) : sOK L x := by
  rcases h with h | ⟨h1, h2⟩
  · exact Or.inl h
  · exact Or.inr ⟨h1, Nat.lt_of_lt_of_le h2 (Nat.mul_le_mul_right _ hKL)⟩
theorem dOK_mono {K L : Nat} {x : UInt64} (h : dOK K x) (hKL : K ≤ L) : dOK L x := by
  rcases h with h | ⟨h1, h2⟩
  · exact Or.inl h
  · exact Or.inr ⟨h1, Nat.lt_of_lt_of_le h2 (Nat.mul_le_mul_right _ hKL)⟩
theorem sOK_lt {K : Nat} {x : UInt32} (h : sOK K x) (hK : 1 ≤ K) (hK2 : K ≤ 255) : x.toNat < 2 ^ 31 ∧ x.toNat < K * 2 ^ 23 := by
  rcases h with h | ⟨h1, h2⟩
  · subst h; exact ⟨by decide, by show (0 : Nat) < _; omega⟩
  · exact ⟨by omega, h2⟩
theorem dOK_lt {K : Nat} {x : UInt64} (h : dOK K x) (hK : 1 ≤ K) (hK2 : K ≤ 2047) : x.toNat < 2 ^ 63 ∧ x.toNat < K * 2 ^ 52 := by
  rcases h with h | ⟨h1, h2⟩
  · subst h; exact ⟨by decide, by show (0 : Nat) < _; omega⟩
  · exact ⟨by omega, h2⟩
theorem sOK_fin {K : Nat} {x : UInt32} (h : sOK K x) (hK : 1 ≤ K) (hK2 : K ≤ 255) : FP.Core.FFin x :=
  FP.Core.fin_of_lt32 (K := K) (by have := sOK_lt h hK hK2; omega) hK2
theorem dOK_fin {K : Nat} {x : UInt64} (h : dOK K x) (hK : 1 ≤ K) (hK2 : K ≤ 2047) : FP.Core.DFin x :=
  FP.Core.fin_of_lt (K := K) (by have := dOK_lt h hK hK2; omega) hK2
theorem sOK_add {K : Nat} {a b : UInt32} (ha : sOK K a) (hb : sOK K b) (hK : 1 ≤ K) (hK2 : K ≤ 250) : sOK (K + 2) (FP.fadd a b) := by
  obtain ⟨a1, a2⟩ := sOK_lt ha hK (by omega)
  obtain ⟨b1, b2⟩ := sOK_lt hb hK (by omega)
  have fa := sOK_fin ha hK (by omega)
  have fb := sOK_fin hb hK (by omega)
  have hm : (FP.Core.fadd a b).toNat % 2 ^ 31 < (K + 2) * 2 ^ 23 := FP.Core.fadd_mag (by omega) (by omega) (by omega)
  have fr : FP.Core.FFin (FP.Core.fadd a b) := FP.Core.fin_of_lt32 hm (by omega)
  by_cases hz : a = 0 ∧ b = 0
  · obtain ⟨rfl, rfl⟩ := hz
    exact Or.inl (by decide +kernel)
  · have nV : FP.Core.val32 (1006632960 : UInt32) ≠ .nan := by rw [show FP.Core.val32 (1006632960 : UInt32) = .fin false (2 ^ 23) (-30) from by decide +kernel]; exact FP.Core.Datum.noConfusion
    have ge : ∀ x : UInt32, FP.Core.FFin x → x.toNat < 2 ^ 31 → 1006632960 ≤ x.toNat → FP.Core.zval FP.Core.b32 (FP.Core.val32 1006632960) ≤ FP.Core.zval FP.Core.b32 (FP.Core.val32 x) := by
      intro x fx x1 x2
      have h1 := (FP.Core.mono_bits32 fx.ne_nan nV x1 (by decide)).1
      have h2 : ¬ FP.Core.fcmp x 1006632960 = some .lt := fun h => absurd (h1.mp h) (by show ¬ x.toNat < 1006632960; omega)
      rw [FP.Core.fcmp_zval fx.ne_nan nV, Option.some.injEq, FP.Core.compare_lt_iff] at h2
      omega
    have za := FP.Core.zval_nonneg32 fa.ne_nan a1
    have zb := FP.Core.zval_nonneg32 fb.ne_nan b1
    have hs : FP.Core.zval FP.Core.b32 (FP.Core.val32 1006632960) ≤ FP.Core.zval FP.Core.b32 (FP.Core.val32 a) + FP.Core.zval FP.Core.b32 (FP.Core.val32 b) := by
      rcases ha with ha0 | ha0
      · rcases hb with hb0 | hb0
        · exact absurd ⟨ha0, hb0⟩ hz
        · have := ge b fb b1 hb0.1; omega
      · have := ge a fa a1 ha0.1; omega
    have hr := FP.Core.sum_ge FP.Core.good_b32 (x := FP.Core.val32 a) (y := FP.Core.val32 b) (V := FP.Core.val32 1006632960) fa fb (FP.Core.val32_fits _) (FP.Core.val32_fits _) (FP.Core.val32_fits _) nV hs
    rw [← FP.Core.val32_fadd] at hr
    have hV : 0 < FP.Core.zval FP.Core.b32 (FP.Core.val32 1006632960) := by decide +kernel
    have r1 : (FP.Core.fadd a b).toNat < 2 ^ 31 := by
      rcases Nat.lt_or_ge (FP.Core.fadd a b).toNat (2 ^ 31) with h | h
      · exact h
      · have := FP.Core.zval_nonpos32 fr.ne_nan h; omega
    have h1 := (FP.Core.mono_bits32 fr.ne_nan nV r1 (by decide)).1
    have h2 : ¬ FP.Core.fcmp (FP.Core.fadd a b) 1006632960 = some .lt := by
      rw [FP.Core.fcmp_zval fr.ne_nan nV, Option.some.injEq, FP.Core.compare_lt_iff]; omega
    have h3 : ¬ (FP.Core.fadd a b).toNat < 1006632960 := fun h => h2 (h1.mpr h)
    exact Or.inr ⟨by show _ ≤ (FP.Core.fadd a b).toNat; omega, by show (FP.Core.fadd a b).toNat < _; omega⟩
theorem dOK_add {K : Nat} {a b : UInt64} (ha : dOK K a) (hb : dOK K b) (hK : 1 ≤ K) (hK2 : K ≤ 2000) : dOK (K + 2) (FP.dadd a b) := by
  obtain ⟨a1, a2⟩ := dOK_lt ha hK (by omega)
  obtain ⟨b1, b2⟩ := dOK_lt hb hK (by omega)
  have fa := dOK_fin ha hK (by omega)
  have fb := dOK_fin hb hK (by omega)
  have hm : (FP.Core.dadd a b).toNat % 2 ^ 63 < (K + 2) * 2 ^ 52 := FP.Core.dadd_mag (by omega) (by omega) (by omega)
  have fr : FP.Core.DFin (FP.Core.dadd a b) := FP.Core.fin_of_lt hm (by omega)
  by_cases hz : a = 0 ∧ b = 0
  · obtain ⟨rfl, rfl⟩ := hz
    exact Or.inl (by decide +kernel)
  · have nV : FP.Core.val64 (4575657221408423936 : UInt64) ≠ .nan := by rw [show FP.Core.val64 (4575657221408423936 : UInt64) = .fin false (2 ^ 52) (-59) from by decide +kernel]; exact FP.Core.Datum.noConfusion
    have ge : ∀ x : UInt64, FP.Core.DFin x → x.toNat < 2 ^ 63 → 4575657221408423936 ≤ x.toNat → FP.Core.zval FP.Core.b64 (FP.Core.val64 4575657221408423936) ≤ FP.Core.zval FP.Core.b64 (FP.Core.val64 x) := by
      intro x fx x1 x2
      have h1 := (FP.Core.mono_bits fx.ne_nan nV x1 (by decide)).1
      have h2 : ¬ FP.Core.dcmp x 4575657221408423936 = some .lt := fun h => absurd (h1.mp h) (by show ¬ x.toNat < 4575657221408423936; omega)
      rw [FP.Core.dcmp_zval fx.ne_nan nV, Option.some.injEq, FP.Core.compare_lt_iff] at h2
      omega
    have za := FP.Core.zval_nonneg fa.ne_nan a1
    have zb := FP.Core.zval_nonneg fb.ne_nan b1
    have hs : FP.Core.zval FP.Core.b64 (FP.Core.val64 4575657221408423936) ≤ FP.Core.zval FP.Core.b64 (FP.Core.val64 a) + FP.Core.zval FP.Core.b64 (FP.Core.val64 b) := by
      rcases ha with ha0 | ha0
      · rcases hb with hb0 | hb0
        · exact absurd ⟨ha0, hb0⟩ hz
        · have := ge b fb b1 hb0.1; omega
      · have := ge a fa a1 ha0.1; omega
    have hr := FP.Core.sum_ge FP.Core.good_b64 (x := FP.Core.val64 a) (y := FP.Core.val64 b) (V := FP.Core.val64 4575657221408423936) fa fb (FP.Core.val64_fits _) (FP.Core.val64_fits _) (FP.Core.val64_fits _) nV hs
    rw [← FP.Core.val64_dadd] at hr
    have hV : 0 < FP.Core.zval FP.Core.b64 (FP.Core.val64 4575657221408423936) := by decide +kernel
    have r1 : (FP.Core.dadd a b).toNat < 2 ^ 63 := by
      rcases Nat.lt_or_ge (FP.Core.dadd a b).toNat (2 ^ 63) with h | h
      · exact h
      · have := FP.Core.zval_nonpos fr.ne_nan h; omega
    have h1 := (FP.Core.mono_bits fr.ne_nan nV r1 (by decide)).1
    have h2 : ¬ FP.Core.dcmp (FP.Core.dadd a b) 4575657221408423936 = some .lt := by
      rw [FP.Core.dcmp_zval fr.ne_nan nV, Option.some.injEq, FP.Core.compare_lt_iff]; omega
    have h3 : ¬ (FP.Core.dadd a b).toNat < 4575657221408423936 := fun h => h2 (h1.mpr h)
    exact Or.inr ⟨by show _ ≤ (FP.Core.dadd a b).toNat; omega, by show (FP.Core.dadd a b).toNat < _; omega⟩
theorem q_all : ∀ n : Fin 101, (FP.fdiv (FP.i2f (nI n.val)) f100 = 0) ∨ (1006632960 ≤ (FP.fdiv (FP.i2f (nI n.val)) f100).toNat ∧ (FP.fdiv (FP.i2f (nI n.val)) f100).toNat < 128 * 2 ^ 23) := by decide +kernel
theorem q_ok {x : Int32} (h : ∃ n, n ≤ 100 ∧ x = nI n) : sOK 128 (FP.fdiv (FP.i2f x) f100) := by
  obtain ⟨n, hn, rfl⟩ := h
  exact q_all ⟨n, by omega⟩
def wOK (w : Nat → Int32) : Prop := ∀ j, j < 4 → ∃ n, n ≤ 100 ∧ w j = nI n
theorem sc_ok {w : Nat → Int32} (hw : wOK w) (v : Int32) : ∀ k, k ≤ 4 → sOK (128 + 2 * k) (scF w v k)
  | 0, _ => Or.inl rfl
  | k + 1, h => by
    unfold scF
    split
    · exact sOK_add (K := 128 + 2 * k) (sc_ok hw v k (by omega)) (sOK_mono (q_ok (hw k (by omega))) (by omega)) (by omega) (by omega)
    · exact sOK_mono (sc_ok hw v k (by omega)) (by omega)
theorem sm_ok {A : Nat → Nat → Int32} (hw : wOK (A 0)) (S : Nat → Int32) (j : Nat) (lo : Int32) (nk : Nat) : ∀ k, k ≤ 4 → sOK (128 + 2 * k) (smF A S j lo nk k)
  | 0, _ => Or.inl rfl
  | k + 1, h => by
    unfold smF
    split
    · exact sOK_add (K := 128 + 2 * k) (sm_ok hw S j lo nk k (by omega)) (sOK_mono (q_ok (hw k (by omega))) (by omega)) (by omega) (by omega)
    · exact sOK_mono (sm_ok hw S j lo nk k (by omega)) (by omega)
theorem sOK_flt {K : Nat} {x : UInt32} (h : sOK K x) (hK : K ≤ 255) : x = 0 ∨ ∃ E t, 120 ≤ E ∧ E < K ∧ t < 2 ^ 23 ∧ x = flt E t := by
  rcases h with h | ⟨h1, h2⟩
  · exact Or.inl h
  · refine Or.inr ⟨x.toNat / 2 ^ 23, x.toNat % 2 ^ 23, by omega, by omega, Nat.mod_lt _ (by decide), ?_⟩
    apply UInt32.toNat_inj.mp
    rw [flt_nat (by omega) (Nat.mod_lt _ (by decide))]
    omega
theorem dOK_dbl {K : Nat} {x : UInt64} (h : dOK K x) (hK : K ≤ 2047) : x = 0 ∨ ∃ E t, 1016 ≤ E ∧ E < K ∧ t < 2 ^ 52 ∧ x = dbl E t := by
  rcases h with h | ⟨h1, h2⟩
  · exact Or.inl h
  · refine Or.inr ⟨x.toNat / 2 ^ 52, x.toNat % 2 ^ 52, by omega, by omega, Nat.mod_lt _ (by decide), ?_⟩
    apply UInt64.toNat_inj.mp
    rw [dbl_nat (by omega) (Nat.mod_lt _ (by decide))]
    omega
theorem f2d_ok {x : UInt32} (h : sOK 136 x) : dOK 1032 (FP.f2d x) := by
  rcases sOK_flt h (by decide) with rfl | ⟨E, t, h1, h2, h3, rfl⟩
  · exact Or.inl (by decide +kernel)
  · rw [flt_f2d (by omega) (by omega) h3]
    refine Or.inr ?_
    rw [dbl_nat (by omega) (by omega)]
    omega
/-- the sums of the scores -/
def dsF (A : Nat → Nat → Int32) : Nat → UInt64
  | 0 => FP.dconst0
  | k + 1 => FP.dadd (dsF A k) (FP.f2d (scF (A 0) (A 10 k) 4))
def mdF (A : Nat → Nat → Int32) (S : Nat → Int32) (nk : Nat) : Nat → UInt64
  | 0 => FP.dconst0
  | k + 1 => FP.dadd (mdF A S nk k) (FP.f2d (smF A S k (-1) nk 4))
theorem ds_ok {A : Nat → Nat → Int32} (hw : wOK (A 0)) : ∀ k, k ≤ 24 → dOK (1032 + 2 * k) (dsF A k)
  | 0, _ => Or.inl rfl
  | k + 1, h => by
    unfold dsF
    exact dOK_add (K := 1032 + 2 * k) (ds_ok hw k (by omega)) (dOK_mono (f2d_ok (sc_ok hw _ 4 (by omega))) (by omega)) (by omega) (by omega)
theorem md_ok {A : Nat → Nat → Int32} (hw : wOK (A 0)) (S : Nat → Int32) (nk : Nat) : ∀ k, k ≤ 24 → dOK (1032 + 2 * k) (mdF A S nk k)
  | 0, _ => Or.inl rfl
  | k + 1, h => by
    unfold mdF
    exact dOK_add (K := 1032 + 2 * k) (md_ok hw S nk k (by omega)) (dOK_mono (f2d_ok (sm_ok hw S k (-1) nk 4 (by omega))) (by omega)) (by omega) (by omega)
theorem nn_sf {x : UInt32} (h : sOK 136 x) : vf_n64 (FP.f2d x) := nn64 (dOK_fin (f2d_ok h) (by decide) (by decide)).notNaN
theorem nn_d {K : Nat} {x : UInt64} (h : dOK K x) (hK : 1 ≤ K) (hK2 : K ≤ 2047) : vf_n64 x := nn64 (dOK_fin h hK hK2).notNaN
theorem fcmp_l0 {x : UInt32} (h : FP.Core.fIsNaN x = false) : Op.cmpValue (FP.fcmp x x) CmpOp.l = 0 := by
  have h2 : FP.fcmp x x = some .eq := FP.Core.fcmp_refl h
  rw [h2]; decide
theorem dcmp_l0 {x : UInt64} (h : FP.Core.dIsNaN x = false) : Op.cmpValue (FP.dcmp x x) CmpOp.l = 0 := by
  have h2 : FP.dcmp x x = some .eq := FP.Core.dcmp_refl h
  rw [h2]; decide
/-- a build that is made, in the model -/
def mbA (A : Nat → Nat → Int32) (nb : Nat) (name v u : Int32) : Nat → Nat → Int32 := uA (uA (uA A 6 (upd (A 6) nb name)) 7 (upd (A 7) nb v)) 8 (upd (A 8) nb u)
theorem upd_upd (f : Nat → Int32) (k : Nat) (x y : Int32) : upd (upd f k x) k y = upd f k y := by
  funext j; by_cases h : j = k <;> simp [upd, h]
theorem mb_7 (A : Nat → Nat → Int32) (nb : Nat) (name v u v' : Int32) : uA (mbA A nb name v u) 7 (upd (upd (A 7) nb v) nb v') = mbA A nb name v' u := by
  rw [upd_upd]; funext i; by_cases h7 : i = 7
  · subst h7; rfl
  · by_cases h8 : i = 8 <;> simp [mbA, uA, h7, h8]
theorem mb_8 (A : Nat → Nat → Int32) (nb : Nat) (name v u u' : Int32) : uA (mbA A nb name v u) 8 (upd (upd (A 8) nb u) nb u') = mbA A nb name v u' := by
  rw [upd_upd]; funext i; by_cases h8 : i = 8 <;> simp [mbA, uA, h8]

theorem Met.ofF {l : Launch} {y : MethodName} {ws ws' : List Cond} {rm : Room} {Pc : Array Value → State → Prop} {Qc : Array Value → State → Outcome → State → Prop} {mc ms : Nat} {free : Addr → Prop} {cc : ByteArray} {maxL : Nat} {ret : Option FieldType} (hy : plainFor y = true) (hw : ws = Cond.code y cc maxL ret :: ws') (body : ∀ p e s m args below meth c s₁, BodyLoose p l y (headSpec ws rm) cc maxL ret e s m args below meth c s₁ → c.maxLocals = maxL → Pc args s → W p l e (headSpec ws rm).room s m args below meth c s.heap [] 0 0 (MQ below Qc args s mc ms free) (entryFrame m args maxL)) : Met l y ws rm Pc Qc mc ms free := by
  refine MetFree.of_bodySF (code := cc) (maxLocals := maxL) (ret := ret) hy ?_ ?_
  · intro args s m h hn
    obtain ⟨meth, c, h1, h2, h3, h4, h5, h6, -, -⟩ := Cond.code_spec hn (atoms_spec (ws := ws) h _ (by rw [hw]; exact List.mem_cons_self))
    exact ⟨meth, c, h1, h2, h3, h4, h5, h6⟩
  · intro p e s m args below meth c s₁ B hml hP _
    have hh0 : s₁.heap = s.heap := by rw [B.state]; rfl
    obtain ⟨t, a1, o, b1, b2, b3⟩ := body p e s m args below meth c s₁ B hml hP s₁ hh0 (Stand.of_body B)
    exact ⟨t, o, a1, b1, b2, ⟨b3.1, b3.2⟩⟩

set_option maxHeartbeats 4000000 in
set_option maxRecDepth 100000 in
theorem c_X3_doubleBits_n (l : Launch) (a b t : Nat) (hab : a = 0 ∨ b = 0) (ha : a ≤ 1000) (hb9 : b ≤ 1000) (ht : t < 2 ^ 52) : Met l yX3_doubleBits wsX3_doubleBits (rmO 1 0) (va_Pc [.double (dbl (1023 + a - b) t)] (fun _ => True)) (roL ((dbl (1023 + a - b) t).toInt64)) 0 0 nof := by
  refine Met.ofW (cc := cX3_doubleBits) (maxL := 6) (ret := (some .long)) (by decide) rfl ?_
  intro p e s m args below meth c s₁ B hml hv
  obtain ⟨rfl, hI⟩ := hv
  have hx := B.exec
  have hb := B.bytes
  have hr := B.returns
  have hts := atoms_spec (ws := wsX3_doubleBits) B.pre
  have hown : s.vm.findClass RX3 = some m.cls := findClass_of_methodNamed B.named
  have hlk := B.notSynchronized
  have hS : va_S nof s.heap s.heap [] := va_S.rf
  have hl := lv_entry ([.double (dbl (1023 + a - b) t)]) (n := 6) (Nat.le_of_ble_eq_true rfl)
  rw [lg_entry_eq]
  generalize (lg_sl ([.double (dbl (1023 + a - b) t)]) ++ List.replicate (6 - (lg_sl ([.double (dbl (1023 + a - b) t)])).length) Slot.unset).toArray = ls at hl ⊢
  have hl : lv_has ls 6 [(0, .double (dbl (1023 + a - b) t))] := hl
  refine lv_dload_n hx hb dX3_doubleBits_0 rfl (lv_at hl 0 rfl) ?_
  refine lv_dconst0 hx hb dX3_doubleBits_1 ?_
  refine lv_dcmp hx hb dX3_doubleBits_2 ?_
  refine lv_if_gt (tgt := 8) hx hb dX3_doubleBits_3 (by decide) (fun c3_1 => ?_) (fun c3_1 => ?_)
  rotate_left
  · exact absurd (dbl_pos (by omega) (by omega) ht) c3_1
  refine lv_dload_n hx hb dX3_doubleBits_8 rfl (lv_at hl 0 rfl) ?_
  refine lv_dstore_n (lv' := [(2, .double (dbl (1023 + a - b) t)), (0, .double (dbl (1023 + a - b) t))]) hx hb dX3_doubleBits_9 rfl hl (by decide) rfl (fun ls hl => ?_)
  refine lv_ldc2 (v := 1023) hx hb hown (hts (.constantLong RX3 246 (1023)) (List.mem_of_getElem? (i := 1) rfl)) dX3_doubleBits_10 ?_
  refine lv_lstore (lv' := [(4, .long 1023), (2, .double (dbl (1023 + a - b) t)), (0, .double (dbl (1023 + a - b) t))]) hx hb dX3_doubleBits_13 hl (by decide) rfl (fun ls hl => ?_)
  suffices KL15 : ∀ (n9 k : Nat), k + n9 = a → ∀ (H : Heap) (locs : List Loc), va_S (nof) s.heap H locs → ∀ ls : Array Slot, lv_has ls 6 [(2, .double (dbl (1023 + (a - k) - b) t)), (4, .long (lN (1023 + k))), (0, .double (dbl (1023 + a - b) t))] → W p l e (headSpec wsX3_doubleBits (rmO 1 0)).room s m ([.double (dbl (1023 + a - b) t)]).toArray below meth c H locs 0 0 (MQ below (roL ((dbl (1023 + a - b) t).toInt64)) ([.double (dbl (1023 + a - b) t)]).toArray s 0 0 nof) (F0 m 15 ls []) by
    exact KL15 a 0 (by omega) _ _ hS ls ((lv_sub hl [1, 0, 2] rfl))
  intro n9
  induction n9 with
  | zero =>
    intro k hk H locs hS ls hl
    have hk : a = k := by omega
    subst hk
    refine lv_dload_n hx hb dX3_doubleBits_15 rfl (lv_at hl 0 rfl) ?_
    refine lv_ldc2d (v := 4611686018427387904) hx hb hown (hts (.constantDouble RX3 248 (4611686018427387904)) (List.mem_of_getElem? (i := 2) rfl)) dX3_doubleBits_16 ?_
    refine lv_dcmp hx hb dX3_doubleBits_19 ?_
    refine lv_if_lt (tgt := 47) hx hb dX3_doubleBits_20 (by decide) (fun c20_2 => ?_) (fun c20_2 => ?_)
    rotate_left
    · exact absurd (dbl_lt2 (by omega) (by omega) ht (by omega)) c20_2
    suffices KL47 : ∀ (n9 j : Nat), j + n9 = b → ∀ (H : Heap) (locs : List Loc), va_S (nof) s.heap H locs → ∀ ls : Array Slot, lv_has ls 6 [(2, .double (dbl (1023 - (b - j)) t)), (4, .long (lN (1023 + a - j))), (0, .double (dbl (1023 + a - b) t))] → W p l e (headSpec wsX3_doubleBits (rmO 1 0)).room s m ([.double (dbl (1023 + a - b) t)]).toArray below meth c H locs 0 0 (MQ below (roL ((dbl (1023 + a - b) t).toInt64)) ([.double (dbl (1023 + a - b) t)]).toArray s 0 0 nof) (F0 m 47 ls []) by
      rw [show 1023 + (a - a) - b = 1023 - (b - 0) from by omega] at hl
      exact KL47 b 0 (by omega) _ _ hS ls ((lv_sub hl [0, 1, 2] rfl))
    intro n9
    induction n9 with
    | zero =>
      intro j hk H locs hS ls hl
      have hk : b = j := by omega
      subst hk
      refine lv_dload_n hx hb dX3_doubleBits_47 rfl (lv_at hl 0 rfl) ?_
      refine lv_dconst1 hx hb dX3_doubleBits_48 ?_
      refine lv_dcmp hx hb dX3_doubleBits_49 ?_
      refine lv_if_ge (tgt := 75) hx hb dX3_doubleBits_50 (by decide) (fun c50_3 => ?_) (fun c50_3 => ?_)
      rotate_left
      · exact absurd (dbl_ge1 (by omega) (by omega) ht (by omega)) c50_3
      rw [show 1023 - (b - b) = 1023 from by omega] at hl
      refine lv_lload hx hb dX3_doubleBits_75 (lv_at hl 1 rfl) ?_
      refine lv_bipush (v := 52) hx hb dX3_doubleBits_77 (by decide) ?_
      refine lv_lshl hx hb dX3_doubleBits_79 rfl ?_
      refine lv_dload_n hx hb dX3_doubleBits_80 rfl (lv_at hl 0 rfl) ?_
      refine lv_dconst1 hx hb dX3_doubleBits_81 ?_
      refine lv_dsub hx hb dX3_doubleBits_82 (nn_last1 ht) ?_
      refine lv_ldc2d (v := 4841369599423283200) hx hb hown (hts (.constantDouble RX3 252 (4841369599423283200)) (List.mem_of_getElem? (i := 4) rfl)) dX3_doubleBits_83 ?_
      refine lv_dmul hx hb dX3_doubleBits_86 (nn_last2 ht) ?_
      refine lv_d2l hx hb dX3_doubleBits_87 ?_
      refine lv_ladd hx hb dX3_doubleBits_88 ?_
      exact end_rol hx hb hr (by rw [dbl_last ht]; exact dbl_long (by omega) ht) hS dX3_doubleBits_89 hlk
    | succ n9 ih47 =>
      intro j hk H locs hS ls hl
      have hk47 : j < b := by omega
      refine lv_dload_n hx hb dX3_doubleBits_47 rfl (lv_at hl 0 rfl) ?_
      refine lv_dconst1 hx hb dX3_doubleBits_48 ?_
      refine lv_dcmp hx hb dX3_doubleBits_49 ?_
      refine lv_if_ge (tgt := 75) hx hb dX3_doubleBits_50 (by decide) (fun c50_4 => ?_) (fun c50_4 => ?_)
      · exact absurd c50_4 (dbl_lt1 (by omega) (by omega) ht (by omega))
      refine lv_lload hx hb dX3_doubleBits_53 (lv_at hl 1 rfl) ?_
      refine lv_lconst (v := 1) hx hb dX3_doubleBits_55 (by decide) ?_
      refine W.lcmp hx hb dX3_doubleBits_56 ?_
      refine lv_if_le (tgt := 75) hx hb dX3_doubleBits_57 (by decide) (fun c57_5 => ?_) (fun c57_5 => ?_)
      · exact absurd c57_5 (exp_gt (by omega) (by omega))
      refine lv_dload_n hx hb dX3_doubleBits_60 rfl (lv_at hl 0 rfl) ?_
      refine lv_ldc2d (v := 4611686018427387904) hx hb hown (hts (.constantDouble RX3 248 (4611686018427387904)) (List.mem_of_getElem? (i := 2) rfl)) dX3_doubleBits_61 ?_
      refine lv_dmul hx hb dX3_doubleBits_64 (nnB hk47 hb9 ht) ?_
      refine lv_dstore_n (lv' := [(2, .double (FP.dmul (dbl (1023 - (b - j)) t) 4611686018427387904)), (4, .long (lN (1023 + a - j))), (0, .double (dbl (1023 + a - b) t))]) hx hb dX3_doubleBits_65 rfl hl (by decide) rfl (fun ls hl => ?_)
      refine lv_lload hx hb dX3_doubleBits_66 (lv_at hl 1 rfl) ?_
      refine lv_lconst (v := 1) hx hb dX3_doubleBits_68 (by decide) ?_
      refine lv_lsub hx hb dX3_doubleBits_69 ?_
      refine lv_lstore (lv' := [(4, .long ((lN (1023 + a - j)) - 1)), (2, .double (FP.dmul (dbl (1023 - (b - j)) t) 4611686018427387904)), (0, .double (dbl (1023 + a - b) t))]) hx hb dX3_doubleBits_70 hl (by decide) rfl (fun ls hl => ?_)
      refine lv_goto (tgt := 47) hx hb dX3_doubleBits_72 (by decide) ?_
      rw [show (FP.dmul (dbl (1023 - (b - j)) t) 4611686018427387904) = (dbl (1023 - (b - (j + 1))) t) from (twoB hk47 hb9 ht)] at hl
      rw [show ((lN (1023 + a - j)) - 1) = (lN (1023 + a - (j + 1))) from (subB hk47 hb9)] at hl
      exact ih47 (j + 1) (by omega) _ _ hS ls (lv_sub hl [1, 0, 2] rfl)
  | succ n9 ih15 =>
    intro k hk H locs hS ls hl
    have hk15 : k < a := by omega
    refine lv_dload_n hx hb dX3_doubleBits_15 rfl (lv_at hl 0 rfl) ?_
    refine lv_ldc2d (v := 4611686018427387904) hx hb hown (hts (.constantDouble RX3 248 (4611686018427387904)) (List.mem_of_getElem? (i := 2) rfl)) dX3_doubleBits_16 ?_
    refine lv_dcmp hx hb dX3_doubleBits_19 ?_
    refine lv_if_lt (tgt := 47) hx hb dX3_doubleBits_20 (by decide) (fun c20_6 => ?_) (fun c20_6 => ?_)
    · exact absurd c20_6 (dbl_ge2 (by omega) (by omega) ht (by omega))
    refine lv_lload hx hb dX3_doubleBits_23 (lv_at hl 1 rfl) ?_
    refine lv_ldc2 (v := 2046) hx hb hown (hts (.constantLong RX3 250 (2046)) (List.mem_of_getElem? (i := 3) rfl)) dX3_doubleBits_25 ?_
    refine W.lcmp hx hb dX3_doubleBits_28 ?_
    refine lv_if_ge (tgt := 47) hx hb dX3_doubleBits_29 (by decide) (fun c29_7 => ?_) (fun c29_7 => ?_)
    · exact absurd c29_7 (exp_lt (by omega))
    refine lv_dload_n hx hb dX3_doubleBits_32 rfl (lv_at hl 0 rfl) ?_
    refine lv_ldc2d (v := 4611686018427387904) hx hb hown (hts (.constantDouble RX3 248 (4611686018427387904)) (List.mem_of_getElem? (i := 2) rfl)) dX3_doubleBits_33 ?_
    refine lv_ddiv hx hb dX3_doubleBits_36 (nnA hab hk15 ha ht) ?_
    refine lv_dstore_n (lv' := [(2, .double (FP.ddiv (dbl (1023 + (a - k) - b) t) 4611686018427387904)), (4, .long (lN (1023 + k))), (0, .double (dbl (1023 + a - b) t))]) hx hb dX3_doubleBits_37 rfl hl (by decide) rfl (fun ls hl => ?_)
    refine lv_lload hx hb dX3_doubleBits_38 (lv_at hl 1 rfl) ?_
    refine lv_lconst (v := 1) hx hb dX3_doubleBits_40 (by decide) ?_
    refine lv_ladd hx hb dX3_doubleBits_41 ?_
    refine lv_lstore (lv' := [(4, .long ((lN (1023 + k)) + 1)), (2, .double (FP.ddiv (dbl (1023 + (a - k) - b) t) 4611686018427387904)), (0, .double (dbl (1023 + a - b) t))]) hx hb dX3_doubleBits_42 hl (by decide) rfl (fun ls hl => ?_)
    refine lv_goto (tgt := 15) hx hb dX3_doubleBits_44 (by decide) ?_
    rw [show (FP.ddiv (dbl (1023 + (a - k) - b) t) 4611686018427387904) = (dbl (1023 + (a - (k + 1)) - b) t) from (halfA hab hk15 ha ht)] at hl
    rw [show ((lN (1023 + k)) + 1) = (lN (1023 + (k + 1))) from (lN_1 (1023 + k))] at hl
    exact ih15 (k + 1) (by omega) _ _ hS ls (lv_sub hl [1, 0, 2] rfl)

set_option maxHeartbeats 4000000 in
set_option maxRecDepth 100000 in
theorem c_X3_doubleBits_0 (l : Launch) : Met l yX3_doubleBits wsX3_doubleBits (rmO 1 0) (va_Pc [.double 0] (fun _ => True)) (roL 0) 0 0 nof := by
  refine Met.ofW (cc := cX3_doubleBits) (maxL := 6) (ret := (some .long)) (by decide) rfl ?_
  intro p e s m args below meth c s₁ B hml hv
  obtain ⟨rfl, hI⟩ := hv
  have hx := B.exec
  have hb := B.bytes
  have hr := B.returns
  have hts := atoms_spec (ws := wsX3_doubleBits) B.pre
  have hown : s.vm.findClass RX3 = some m.cls := findClass_of_methodNamed B.named
  have hlk := B.notSynchronized
  have hS : va_S nof s.heap s.heap [] := va_S.rf
  have hl := lv_entry ([.double 0]) (n := 6) (Nat.le_of_ble_eq_true rfl)
  rw [lg_entry_eq]
  generalize (lg_sl ([.double 0]) ++ List.replicate (6 - (lg_sl ([.double 0])).length) Slot.unset).toArray = ls at hl ⊢
  have hl : lv_has ls 6 [(0, .double 0)] := hl
  refine lv_dload_n hx hb dX3_doubleBits_0 rfl (lv_at hl 0 rfl) ?_
  refine lv_dconst0 hx hb dX3_doubleBits_1 ?_
  refine lv_dcmp hx hb dX3_doubleBits_2 ?_
  refine lv_if_gt (tgt := 8) hx hb dX3_doubleBits_3 (by decide) (fun c3_1 => ?_) (fun c3_1 => ?_)
  · exact absurd c3_1 (by decide +kernel)
  refine lv_lconst (v := 0) hx hb dX3_doubleBits_6 (by decide) ?_
  exact end_rol hx hb hr rfl hS dX3_doubleBits_7 hlk

theorem c_X3_doubleBits (l : Launch) (x : UInt64) {K : Nat} (h : dOK K x) (hK : K ≤ 2000) : Met l yX3_doubleBits wsX3_doubleBits (rmO 1 0) (va_Pc [.double x] (fun _ => True)) (roL x.toInt64) 0 0 nof := by
  rcases dOK_dbl h (by omega) with rfl | ⟨E, t, h1, h2, h3, rfl⟩
  · exact c_X3_doubleBits_0 l
  · have h4 := c_X3_doubleBits_n l (E - 1023) (1023 - E) t (by omega) (by omega) (by omega) h3
    rw [show 1023 + (E - 1023) - (1023 - E) = E by omega] at h4
    exact h4

set_option maxHeartbeats 4000000 in
set_option maxRecDepth 100000 in
theorem c_X3_floatBits_n (l : Launch) (E t : Nat) (h1 : 1 ≤ E) (hE : E ≤ 254) (ht : t < 2 ^ 23) (hE2 : 120 ≤ E) : Met l yX3_floatBits wsX3_floatBits (rmO 2 25) (va_Pc [.float (flt E t)] (fun _ => True)) (roI ((flt E t).toInt32)) 0 0 nof := by
  refine Met.ofW (cc := cX3_floatBits) (maxL := 1) (ret := (some .int)) (by decide) rfl ?_
  intro p e s m args below meth c s₁ B hml hv
  obtain ⟨rfl, hI⟩ := hv
  have hx := B.exec
  have hb := B.bytes
  have hr := B.returns
  have hts := atoms_spec (ws := wsX3_floatBits) B.pre
  have hown : s.vm.findClass RX3 = some m.cls := findClass_of_methodNamed B.named
  have hlk := B.notSynchronized
  have hS : va_S nof s.heap s.heap [] := va_S.rf
  have hl := lv_entry ([.float (flt E t)]) (n := 1) (Nat.le_of_ble_eq_true rfl)
  rw [lg_entry_eq]
  generalize (lg_sl ([.float (flt E t)]) ++ List.replicate (1 - (lg_sl ([.float (flt E t)])).length) Slot.unset).toArray = ls at hl ⊢
  have hl : lv_has ls 1 [(0, .float (flt E t))] := hl
  refine lv_fload_n hx hb dX3_floatBits_0 rfl (lv_at hl 0 rfl) ?_
  refine lv_fconst0 hx hb dX3_floatBits_1 ?_
  refine lv_fcmp hx hb dX3_floatBits_2 ?_
  refine lv_if_gt (tgt := 8) hx hb dX3_floatBits_3 (by decide) (fun c3_1 => ?_) (fun c3_1 => ?_)
  rotate_left
  · exact absurd (flt_pos h1 hE ht) c3_1
  refine lv_fload_n hx hb dX3_floatBits_8 rfl (lv_at hl 0 rfl) ?_
  refine lv_f2d hx hb dX3_floatBits_9 (by rw [flt_f2d h1 hE ht]; exact nn64 ((FP.Core.notNaN_iff _).mpr (dbl_ne (by omega) (by omega) (by omega)))) ?_
  rw [show (FP.f2d (flt E t)) = dbl (1023 + (E - 127) - (127 - E)) (t * 2 ^ 29) from ((flt_f2d h1 hE ht).trans (by congr 1; omega))]
  refine ro0_l (va_runS (As := [.double (dbl (1023 + (E - 127) - (127 - E)) (t * 2 ^ 29))]) (rest := []) ⟨hx, hb, hml, hown, hts⟩ (c_X3_doubleBits l (dbl (1023 + (E - 127) - (127 - E)) (t * 2 ^ 29)) (K := 1200) (Or.inr (by rw [dbl_nat (by omega) (by omega)]; omega)) (by decide)) (va_cwS 1 hts gX3_floatBits_X3_doubleBits rfl rfl rfl (by decide +kernel) ⟨Nat.le_of_ble_eq_true rfl, Nat.le_of_ble_eq_true rfl⟩) preT rfl rfl hl.1 rfl (lv_room (Nat.le_of_ble_eq_true rfl)) dX3_floatBits_10 ⟨Nat.le_of_ble_eq_true rfl, Nat.le_of_ble_eq_true rfl⟩) hS (fun H locs hS => ?_)
  refine lv_bipush (v := 29) hx hb dX3_floatBits_13 (by decide) ?_
  refine lv_lushr hx hb dX3_floatBits_15 rfl ?_
  refine lv_ldc2 (v := 7516192768) hx hb hown (hts (.constantLong RX3 254 (7516192768)) (List.mem_of_getElem? (i := 1) rfl)) dX3_floatBits_16 ?_
  refine lv_lsub hx hb dX3_floatBits_19 ?_
  refine lv_l2i hx hb dX3_floatBits_20 rfl ?_
  exact end_roi hx hb hr (flt_bits h1 hE ht) hS dX3_floatBits_21 hlk

set_option maxHeartbeats 4000000 in
set_option maxRecDepth 100000 in
theorem c_X3_floatBits_0 (l : Launch) : Met l yX3_floatBits wsX3_floatBits (rmO 2 25) (va_Pc [.float 0] (fun _ => True)) (roI 0) 0 0 nof := by
  refine Met.ofW (cc := cX3_floatBits) (maxL := 1) (ret := (some .int)) (by decide) rfl ?_
  intro p e s m args below meth c s₁ B hml hv
  obtain ⟨rfl, hI⟩ := hv
  have hx := B.exec
  have hb := B.bytes
  have hr := B.returns
  have hts := atoms_spec (ws := wsX3_floatBits) B.pre
  have hown : s.vm.findClass RX3 = some m.cls := findClass_of_methodNamed B.named
  have hlk := B.notSynchronized
  have hS : va_S nof s.heap s.heap [] := va_S.rf
  have hl := lv_entry ([.float 0]) (n := 1) (Nat.le_of_ble_eq_true rfl)
  rw [lg_entry_eq]
  generalize (lg_sl ([.float 0]) ++ List.replicate (1 - (lg_sl ([.float 0])).length) Slot.unset).toArray = ls at hl ⊢
  have hl : lv_has ls 1 [(0, .float 0)] := hl
  refine lv_fload_n hx hb dX3_floatBits_0 rfl (lv_at hl 0 rfl) ?_
  refine lv_fconst0 hx hb dX3_floatBits_1 ?_
  refine lv_fcmp hx hb dX3_floatBits_2 ?_
  refine lv_if_gt (tgt := 8) hx hb dX3_floatBits_3 (by decide) (fun c3_1 => ?_) (fun c3_1 => ?_)
  · exact absurd c3_1 (by decide +kernel)
  refine lv_iconst (v := 0) hx hb dX3_floatBits_6 (by decide) ?_
  exact end_roi hx hb hr rfl hS dX3_floatBits_7 hlk

theorem c_X3_floatBits (l : Launch) (x : UInt32) (h : sOK 136 x) : Met l yX3_floatBits wsX3_floatBits (rmO 2 25) (va_Pc [.float x] (fun _ => True)) (roI x.toInt32) 0 0 nof := by
  rcases sOK_flt h (by decide) with rfl | ⟨E, t, h1, h2, h3, rfl⟩
  · exact c_X3_floatBits_0 l
  · exact c_X3_floatBits_n l E t (by omega) (by omega) h3 h1

set_option maxHeartbeats 4000000 in
set_option maxRecDepth 100000 in
theorem c_X3_scoreBits (l : Launch) (hst : l.stackTraces = false) (D : va_G) (cy : Nat → ClassId) (h0 : Nat) (q : Nat → Nat) (A : Nat → Nat → Int32) (S : Nat → Int32) (b : Int32) (nb : Nat) (hnb : nb ≤ 24) (hcb : S 5 = nI nb) (hw : wOK (A 0)) : vx_Met l yX3_scoreBits wsX3_scoreBits (rmX (exR b nb xIOB) 7 103) (va_Pc [.ref (q 0), .int b] (pI D cy h0 (wX cy q A S))) (xoI (exR b nb xIOB) ((scF (A 0) (A 10 (ix b)) 4).toInt32)) (xx (exR b nb xIOB)) (c1 (exR b nb xIOB)) (c6 (exR b nb xIOB)) nof := by
  refine vx_ofW (cc := cX3_scoreBits) (maxL := 2) (ret := (some .int)) (by decide) rfl ?_
  intro p e s m args below meth c s₁ B hml hout hv
  obtain ⟨rfl, hI⟩ := hv
  have hx := B.exec
  have hb := B.bytes
  have hr := B.returns
  have hts := atoms_spec (ws := wsX3_scoreBits) B.pre
  have hown : s.vm.findClass RX3 = some m.cls := findClass_of_methodNamed B.named
  have hlk := B.notSynchronized
  have hI : IH D cy h0 (wX cy q A S) s s.heap := hI
  have hG := hI.1
  have hS : va_S nof s.heap s.heap [] := va_S.rf
  have hi0 : ∀ w ∈ wsX00, w ∈ wsX3_scoreBits := by decide +kernel
  have hi3 : ∀ w ∈ wsX30, w ∈ wsX3_scoreBits := by decide +kernel
  have hl := lv_entry ([.ref (q 0), .int b]) (n := 2) (Nat.le_of_ble_eq_true rfl)
  rw [lg_entry_eq]
  generalize (lg_sl ([.ref (q 0), .int b]) ++ List.replicate (2 - (lg_sl ([.ref (q 0), .int b])).length) Slot.unset).toArray = ls at hl ⊢
  have hl : lv_has ls 2 [(0, .ref (q 0)), (1, .int b)] := hl
  refine lv_aload_n hx hb dX3_scoreBits_0 rfl (lv_at hl 0 rfl) ?_
  refine lv_iload_n hx hb dX3_scoreBits_1 rfl (lv_at hl 1 rfl) ?_
  rcases Classical.em (inR b nb = true) with x2_1 | x2_1
  · refine xo_v (exR_n x2_1) (vx_runV (As := [.int b]) (rest := []) ⟨hx, hb, hml, hown, hts⟩ (c_X3_requireBuild l hst D cy h0 q A S b nb hnb hcb) (cwV 1 hts gX3_scoreBits_X3_requireBuild rfl rfl rfl (by decide +kernel) ⟨Nat.le_of_ble_eq_true rfl, Nat.le_of_ble_eq_true rfl⟩) (hI.preV (k0 := 0) rfl rfl) rfl rfl hl.1 rfl (lv_room (Nat.le_of_ble_eq_true rfl)) dX3_scoreBits_2 (rm_ok (exR_n x2_1) (Nat.zero_le _) (Nat.zero_le _))) hI hS (fun H locs hI hS => ?_)
    obtain ⟨hj_b, hk_b⟩ := inR_c (by omega) x2_1
    refine lv_aload_n hx hb dX3_scoreBits_5 rfl (lv_at hl 0 rfl) ?_
    refine lv_aload_n hx hb dX3_scoreBits_6 rfl (lv_at hl 0 rfl) ?_
    refine r_get (C := RX3) (T := TX3) (N := 7) (k := 1) (q0 := 0) (v := .ref (q 2)) hx hb hts hi3 hown hI rfl rfl (by decide) (hts (.fieldLink RX3 19 "Buildlots" "builds" "LBuildlots$Builds;") (List.mem_of_getElem? (i := 1) rfl)) rfl rfl dX3_scoreBits_7 ?_
    refine r_getN (C := RX0) (T := TX0) (N := 10) (k := 5) (q0 := 2) (v := .ref (q 14)) hx hb hts hi0 hown hI rfl rfl (by decide) (List.mem_of_getElem? (i := 5) rfl) rfl rfl dX3_scoreBits_10 ?_
    refine lv_iload_n hx hb dX3_scoreBits_13 rfl (lv_at hl 1 rfl) ?_
    refine r_iald (q0 := 14) (j := (ix b)) (n := 24) (f := (A 10)) hx hb hI rfl hk_b (by omega) (by decide) dX3_scoreBits_14 ?_
    refine ro_f (va_runV (As := [.int (A 10 (ix b))]) (rest := []) ⟨hx, hb, hml, hown, hts⟩ (c_X3_scoreFrom l D cy h0 q A S (A 10 (ix b))) (cwV 1 hts gX3_scoreBits_X3_scoreFrom rfl rfl rfl (by decide +kernel) ⟨Nat.le_of_ble_eq_true rfl, Nat.le_of_ble_eq_true rfl⟩) (hI.preV (k0 := 0) rfl rfl) rfl rfl hl.1 rfl (lv_room (Nat.le_of_ble_eq_true rfl)) dX3_scoreBits_15 ⟨Nat.le_of_ble_eq_true rfl, Nat.le_of_ble_eq_true rfl⟩) hI hS (fun H locs hI hS => ?_)
    refine ro_i (va_runS (As := [.float (scF (A 0) (A 10 (ix b)) 4)]) (rest := []) ⟨hx, hb, hml, hown, hts⟩ (c_X3_floatBits l (scF (A 0) (A 10 (ix b)) 4) (sc_ok hw _ 4 (by decide))) (va_cwS 1 hts gX3_scoreBits_X3_floatBits rfl rfl rfl (by decide +kernel) ⟨Nat.le_of_ble_eq_true rfl, Nat.le_of_ble_eq_true rfl⟩) preT rfl rfl hl.1 rfl (lv_room (Nat.le_of_ble_eq_true rfl)) dX3_scoreBits_18 ⟨Nat.le_of_ble_eq_true rfl, Nat.le_of_ble_eq_true rfl⟩) hI hS (fun H locs hI hS => ?_)
    exact end_xoi hx hb hr (by first | (simp only [exR, x2_1, ↓reduceIte, Bool.false_eq_true, reduceCtorEq]; done) | simp [exR, x2_1]) rfl hS dX3_scoreBits_21 hlk
  · refine xb_v (E := xIOB) (exR_s x2_1) (vx_runV (As := [.int b]) (rest := []) ⟨hx, hb, hml, hown, hts⟩ (c_X3_requireBuild l hst D cy h0 q A S b nb hnb hcb) (cwV 1 hts gX3_scoreBits_X3_requireBuild rfl rfl rfl (by decide +kernel) ⟨Nat.le_of_ble_eq_true rfl, Nat.le_of_ble_eq_true rfl⟩) (hI.preV (k0 := 0) rfl rfl) rfl rfl hl.1 rfl (lv_room (Nat.le_of_ble_eq_true rfl)) dX3_scoreBits_2 (rm_bad (ex' := exR b nb xIOB) (exR_s x2_1) ((by first | (simp only [exR, x2_1, ↓reduceIte, Bool.false_eq_true, reduceCtorEq]; done) | simp [exR, x2_1])))) hI hS (fun ce q9 H locs hI hS hce hcv hcl => ?_)
    exact r_out (by first | (simp only [exR, x2_1, ↓reduceIte, Bool.false_eq_true, reduceCtorEq]; done) | simp [exR, x2_1]) hS hout hlk hce hcv hcl

set_option maxHeartbeats 4000000 in
set_option maxRecDepth 100000 in
theorem c_X3_scoreSumBits (l : Launch) (D : va_G) (cy : Nat → ClassId) (h0 : Nat) (q : Nat → Nat) (A : Nat → Nat → Int32) (S : Nat → Int32) (nb : Nat) (hnb : nb ≤ 24) (hcb : S 5 = nI nb) (hw : wOK (A 0)) : Met l yX3_scoreSumBits wsX3_scoreSumBits (rmO 4 64) (va_Pc [.ref (q 0)] (pI D cy h0 (wX cy q A S))) (roL ((dsF A nb).toInt64)) 0 0 nof := by
  refine Met.ofW (cc := cX3_scoreSumBits) (maxL := 4) (ret := (some .long)) (by decide) rfl ?_
  intro p e s m args below meth c s₁ B hml hv
  obtain ⟨rfl, hI⟩ := hv
  have hx := B.exec
  have hb := B.bytes
  have hr := B.returns
  have hts := atoms_spec (ws := wsX3_scoreSumBits) B.pre
  have hown : s.vm.findClass RX3 = some m.cls := findClass_of_methodNamed B.named
  have hlk := B.notSynchronized
  have hI : IH D cy h0 (wX cy q A S) s s.heap := hI
  have hG := hI.1
  have hS : va_S nof s.heap s.heap [] := va_S.rf
  have hi0 : ∀ w ∈ wsX00, w ∈ wsX3_scoreSumBits := by decide +kernel
  have hi3 : ∀ w ∈ wsX30, w ∈ wsX3_scoreSumBits := by decide +kernel
  have hl := lv_entry ([.ref (q 0)]) (n := 4) (Nat.le_of_ble_eq_true rfl)
  rw [lg_entry_eq]
  generalize (lg_sl ([.ref (q 0)]) ++ List.replicate (4 - (lg_sl ([.ref (q 0)])).length) Slot.unset).toArray = ls at hl ⊢
  have hl : lv_has ls 4 [(0, .ref (q 0))] := hl
  refine lv_dconst0 hx hb dX3_scoreSumBits_0 ?_
  refine lv_dstore_n (lv' := [(1, .double FP.dconst0), (0, .ref (q 0))]) hx hb dX3_scoreSumBits_1 rfl hl (by decide) rfl (fun ls hl => ?_)
  refine lv_iconst (v := 0) hx hb dX3_scoreSumBits_2 (by decide) ?_
  refine lv_istore_n (lv' := [(3, .int 0), (1, .double FP.dconst0), (0, .ref (q 0))]) hx hb dX3_scoreSumBits_3 rfl hl (by decide) rfl (fun ls hl => ?_)
  suffices KL4 : ∀ (n9 k : Nat), k + n9 = nb → ∀ (H : Heap) (locs : List Loc), IH D cy h0 (wX cy q A S) s H → va_S (nof) s.heap H locs → ∀ ls : Array Slot, lv_has ls 4 [(3, .int (nI k)), (1, .double (dsF A k)), (0, .ref (q 0))] → W p l e (headSpec wsX3_scoreSumBits (rmO 4 64)).room s m ([.ref (q 0)]).toArray below meth c H locs 0 0 (MQ below (roL ((dsF A nb).toInt64)) ([.ref (q 0)]).toArray s 0 0 nof) (F0 m 4 ls []) by
    exact KL4 nb 0 (by omega) _ _ hI hS ls ((lv_sub hl [0, 1, 2] rfl))
  intro n9
  induction n9 with
  | zero =>
    intro k hk H locs hI hS ls hl
    have hk : nb = k := by omega
    subst hk
    refine lv_iload_n hx hb dX3_scoreSumBits_4 rfl (lv_at hl 0 rfl) ?_
    refine lv_aload_n hx hb dX3_scoreSumBits_5 rfl (lv_at hl 2 rfl) ?_
    refine r_get (C := RX3) (T := TX3) (N := 7) (k := 1) (q0 := 0) (v := .ref (q 2)) hx hb hts hi3 hown hI rfl rfl (by decide) (hts (.fieldLink RX3 19 "Buildlots" "builds" "LBuildlots$Builds;") (List.mem_of_getElem? (i := 1) rfl)) rfl rfl dX3_scoreSumBits_6 ?_
    refine r_getN (C := RX0) (T := TX0) (N := 10) (k := 9) (q0 := 2) (v := .int (S 5)) hx hb hts hi0 hown hI rfl rfl (by decide) (List.mem_of_getElem? (i := 0) rfl) rfl rfl dX3_scoreSumBits_9 ?_
    refine lv_icmp_ge (tgt := 38) hx hb dX3_scoreSumBits_12 (by decide) (fun c12_1 => ?_) (fun c12_1 => ?_)
    rotate_left
    · exact absurd (i_ge rfl hcb (Nat.le_refl _) (by omega)) c12_1
    refine lv_dload_n hx hb dX3_scoreSumBits_38 rfl (lv_at hl 1 rfl) ?_
    refine ro_l (va_runS (As := [.double (dsF A nb)]) (rest := []) ⟨hx, hb, hml, hown, hts⟩ (c_X3_doubleBits l (dsF A nb) (ds_ok hw nb (by omega)) (by omega)) (va_cwS 1 hts gX3_scoreSumBits_X3_doubleBits rfl rfl rfl (by decide +kernel) ⟨Nat.le_of_ble_eq_true rfl, Nat.le_of_ble_eq_true rfl⟩) preT rfl rfl hl.1 rfl (lv_room (Nat.le_of_ble_eq_true rfl)) dX3_scoreSumBits_39 ⟨Nat.le_of_ble_eq_true rfl, Nat.le_of_ble_eq_true rfl⟩) hI hS (fun H locs hI hS => ?_)
    exact end_rol hx hb hr rfl hS dX3_scoreSumBits_42 hlk
  | succ n9 ih4 =>
    intro k hk H locs hI hS ls hl
    have hk4 : k < nb := by omega
    refine lv_iload_n hx hb dX3_scoreSumBits_4 rfl (lv_at hl 0 rfl) ?_
    refine lv_aload_n hx hb dX3_scoreSumBits_5 rfl (lv_at hl 2 rfl) ?_
    refine r_get (C := RX3) (T := TX3) (N := 7) (k := 1) (q0 := 0) (v := .ref (q 2)) hx hb hts hi3 hown hI rfl rfl (by decide) (hts (.fieldLink RX3 19 "Buildlots" "builds" "LBuildlots$Builds;") (List.mem_of_getElem? (i := 1) rfl)) rfl rfl dX3_scoreSumBits_6 ?_
    refine r_getN (C := RX0) (T := TX0) (N := 10) (k := 9) (q0 := 2) (v := .int (S 5)) hx hb hts hi0 hown hI rfl rfl (by decide) (List.mem_of_getElem? (i := 0) rfl) rfl rfl dX3_scoreSumBits_9 ?_
    refine lv_icmp_ge (tgt := 38) hx hb dX3_scoreSumBits_12 (by decide) (fun c12_2 => ?_) (fun c12_2 => ?_)
    · exact absurd c12_2 (i_nge rfl hcb (by omega) (by omega))
    refine lv_dload_n hx hb dX3_scoreSumBits_15 rfl (lv_at hl 1 rfl) ?_
    refine lv_aload_n hx hb dX3_scoreSumBits_16 rfl (lv_at hl 2 rfl) ?_
    refine lv_aload_n hx hb dX3_scoreSumBits_17 rfl (lv_at hl 2 rfl) ?_
    refine r_get (C := RX3) (T := TX3) (N := 7) (k := 1) (q0 := 0) (v := .ref (q 2)) hx hb hts hi3 hown hI rfl rfl (by decide) (hts (.fieldLink RX3 19 "Buildlots" "builds" "LBuildlots$Builds;") (List.mem_of_getElem? (i := 1) rfl)) rfl rfl dX3_scoreSumBits_18 ?_
    refine r_getN (C := RX0) (T := TX0) (N := 10) (k := 5) (q0 := 2) (v := .ref (q 14)) hx hb hts hi0 hown hI rfl rfl (by decide) (List.mem_of_getElem? (i := 5) rfl) rfl rfl dX3_scoreSumBits_21 ?_
    refine lv_iload_n hx hb dX3_scoreSumBits_24 rfl (lv_at hl 0 rfl) ?_
    refine r_iald (q0 := 14) (j := k) (n := 24) (f := (A 10)) hx hb hI rfl rfl (by omega) (by decide) dX3_scoreSumBits_25 ?_
    refine ro_f (va_runV (As := [.int (A 10 k)]) (rest := [.double (dsF A k)]) ⟨hx, hb, hml, hown, hts⟩ (c_X3_scoreFrom l D cy h0 q A S (A 10 k)) (cwV 1 hts gX3_scoreSumBits_X3_scoreFrom rfl rfl rfl (by decide +kernel) ⟨Nat.le_of_ble_eq_true rfl, Nat.le_of_ble_eq_true rfl⟩) (hI.preV (k0 := 0) rfl rfl) rfl rfl hl.1 rfl (lv_room (Nat.le_of_ble_eq_true rfl)) dX3_scoreSumBits_26 ⟨Nat.le_of_ble_eq_true rfl, Nat.le_of_ble_eq_true rfl⟩) hI hS (fun H locs hI hS => ?_)
    refine lv_f2d hx hb dX3_scoreSumBits_29 (nn_sf (sc_ok hw _ 4 (by decide))) ?_
    refine lv_dadd hx hb dX3_scoreSumBits_30 (nn_d (ds_ok hw (k + 1) (by omega)) (by omega) (by omega)) ?_
    refine lv_dstore_n (lv' := [(1, .double (FP.dadd (dsF A k) (FP.f2d (scF (A 0) (A 10 k) 4)))), (3, .int (nI k)), (0, .ref (q 0))]) hx hb dX3_scoreSumBits_31 rfl hl (by decide) rfl (fun ls hl => ?_)
    refine lv_iinc (v := nI (k + 1)) (lv' := [(3, .int (nI (k + 1))), (1, .double (FP.dadd (dsF A k) (FP.f2d (scF (A 0) (A 10 k) 4)))), (0, .ref (q 0))]) hx hb dX3_scoreSumBits_32 hl (k := 1) rfl (nI_1 k) (by decide) rfl (fun ls hl => ?_)
    refine lv_goto (tgt := 4) hx hb dX3_scoreSumBits_35 (by decide) ?_
    rw [show (FP.dadd (dsF A k) (FP.f2d (scF (A 0) (A 10 k) 4))) = (dsF A (k + 1)) from rfl] at hl
    exact ih4 (k + 1) (by omega) _ _ hI hS ls (lv_sub hl [0, 1, 2] rfl)

set_option maxHeartbeats 4000000 in
set_option maxRecDepth 100000 in
theorem c_Jxf58ca_isNaN_12338 (l : Launch) (x : UInt32) (hn : FP.Core.fIsNaN x = false) : Met l yJxf58ca_isNaN_12338 wsJxf58ca_isNaN_12338 (rmO 1 0) (va_Pc [.float x] (fun _ => True)) (roI 0) 0 0 nof := by
  refine Met.ofF (cc := cJxf58ca_isNaN_12338) (maxL := 1) (ret := (some .boolean)) (by decide +kernel) rfl ?_
  intro p e s m args below meth c s₁ B hml hv
  obtain ⟨rfl, hI⟩ := hv
  have hx := B.exec
  have hb := B.bytes
  have hr := B.returns
  have hts := atoms_spec (ws := wsJxf58ca_isNaN_12338) B.pre
  have hown : s.vm.findClass RJxf58ca = some m.cls := findClass_of_methodNamed B.named
  have hlk := B.notSynchronized
  have hS : va_S nof s.heap s.heap [] := va_S.rf
  have hl := lv_entry ([.float x]) (n := 1) (Nat.le_of_ble_eq_true rfl)
  rw [lg_entry_eq]
  generalize (lg_sl ([.float x]) ++ List.replicate (1 - (lg_sl ([.float x])).length) Slot.unset).toArray = ls at hl ⊢
  have hl : lv_has ls 1 [(0, .float x)] := hl
  refine lv_fload_n hx hb dJxf58ca_isNaN_12338_0 rfl (lv_at hl 0 rfl) ?_
  refine lv_fload_n hx hb dJxf58ca_isNaN_12338_1 rfl (lv_at hl 0 rfl) ?_
  refine lv_fcmp hx hb dJxf58ca_isNaN_12338_2 ?_
  refine lv_if_eq (tgt := 10) hx hb dJxf58ca_isNaN_12338_3 (by decide) (fun c3_1 => ?_) (fun c3_1 => ?_)
  rotate_left
  · exact absurd (fcmp_l0 hn) c3_1
  refine lv_iconst (v := 0) hx hb dJxf58ca_isNaN_12338_10 (by decide) ?_
  exact end_roz hx hb hr rfl rfl hS dJxf58ca_isNaN_12338_11 hlk

set_option maxHeartbeats 4000000 in
set_option maxRecDepth 100000 in
theorem c_Jxe99ae_isNaN_b9ae7 (l : Launch) (x : UInt64) (hn : FP.Core.dIsNaN x = false) : Met l yJxe99ae_isNaN_b9ae7 wsJxe99ae_isNaN_b9ae7 (rmO 1 0) (va_Pc [.double x] (fun _ => True)) (roI 0) 0 0 nof := by
  refine Met.ofW (cc := cJxe99ae_isNaN_b9ae7) (maxL := 2) (ret := (some .boolean)) (by decide) rfl ?_
  intro p e s m args below meth c s₁ B hml hv
  obtain ⟨rfl, hI⟩ := hv
  have hx := B.exec
  have hb := B.bytes
  have hr := B.returns
  have hts := atoms_spec (ws := wsJxe99ae_isNaN_b9ae7) B.pre
  have hown : s.vm.findClass RJxe99ae = some m.cls := findClass_of_methodNamed B.named
  have hlk := B.notSynchronized
  have hS : va_S nof s.heap s.heap [] := va_S.rf
  have hl := lv_entry ([.double x]) (n := 2) (Nat.le_of_ble_eq_true rfl)
  rw [lg_entry_eq]
  generalize (lg_sl ([.double x]) ++ List.replicate (2 - (lg_sl ([.double x])).length) Slot.unset).toArray = ls at hl ⊢
  have hl : lv_has ls 2 [(0, .double x)] := hl
  refine lv_dload_n hx hb dJxe99ae_isNaN_b9ae7_0 rfl (lv_at hl 0 rfl) ?_
  refine lv_dload_n hx hb dJxe99ae_isNaN_b9ae7_1 rfl (lv_at hl 0 rfl) ?_
  refine lv_dcmp hx hb dJxe99ae_isNaN_b9ae7_2 ?_
  refine lv_if_eq (tgt := 10) hx hb dJxe99ae_isNaN_b9ae7_3 (by decide) (fun c3_1 => ?_) (fun c3_1 => ?_)
  rotate_left
  · exact absurd (dcmp_l0 hn) c3_1
  refine lv_iconst (v := 0) hx hb dJxe99ae_isNaN_b9ae7_10 (by decide) ?_
  exact end_roz hx hb hr rfl rfl hS dJxe99ae_isNaN_b9ae7_11 hlk

set_option maxHeartbeats 4000000 in
set_option maxRecDepth 100000 in
theorem c_Jxf58ca_floatToIntBits_5c35a (l : Launch) (x : UInt32) (hn : FP.Core.fIsNaN x = false) : Met l yJxf58ca_floatToIntBits_5c35a wsJxf58ca_floatToIntBits_5c35a (rmO 2 20) (va_Pc [.float x] (fun _ => True)) (roI x.toInt32) 0 0 nof := by
  refine Met.ofF (cc := cJxf58ca_floatToIntBits_5c35a) (maxL := 1) (ret := (some .int)) (by decide +kernel) rfl ?_
  intro p e s m args below meth c s₁ B hml hv
  obtain ⟨rfl, hI⟩ := hv
  have hx := B.exec
  have hb := B.bytes
  have hr := B.returns
  have hts := atoms_spec (ws := wsJxf58ca_floatToIntBits_5c35a) B.pre
  have hown : s.vm.findClass RJxf58ca = some m.cls := findClass_of_methodNamed B.named
  have hlk := B.notSynchronized
  have hS : va_S nof s.heap s.heap [] := va_S.rf
  have hl := lv_entry ([.float x]) (n := 1) (Nat.le_of_ble_eq_true rfl)
  rw [lg_entry_eq]
  generalize (lg_sl ([.float x]) ++ List.replicate (1 - (lg_sl ([.float x])).length) Slot.unset).toArray = ls at hl ⊢
  have hl : lv_has ls 1 [(0, .float x)] := hl
  refine lv_fload_n hx hb dJxf58ca_floatToIntBits_5c35a_0 rfl (lv_at hl 0 rfl) ?_
  refine ro0_i (va_runS (As := [.float x]) (rest := []) ⟨hx, hb, hml, hown, hts⟩ (c_Jxf58ca_isNaN_12338 l x hn) (va_cwS 1 hts gJxf58ca_floatToIntBits_5c35a_Jxf58ca_isNaN_12338 rfl rfl rfl (by decide +kernel) ⟨Nat.le_of_ble_eq_true rfl, Nat.le_of_ble_eq_true rfl⟩) preT rfl rfl hl.1 rfl (lv_room (Nat.le_of_ble_eq_true rfl)) dJxf58ca_floatToIntBits_5c35a_1 ⟨Nat.le_of_ble_eq_true rfl, Nat.le_of_ble_eq_true rfl⟩) hS (fun H locs hS => ?_)
  refine lv_if_ne (tgt := 12) hx hb dJxf58ca_floatToIntBits_5c35a_4 (by decide) (fun c4_1 => ?_) (fun c4_1 => ?_)
  · exact absurd c4_1 (by decide)
  refine lv_fload_n hx hb dJxf58ca_floatToIntBits_5c35a_7 rfl (lv_at hl 0 rfl) ?_
  refine vn_f2i hx hb (hml.trans hl.1.symm) hown (hts (.methodLink RJxf58ca 74 ⟨"java/lang/Float", "floatToRawIntBits", "(F)I"⟩) (List.mem_of_getElem? (i := 1) rfl)) (hts (.native ⟨"java/lang/Float", "floatToRawIntBits", "(F)I"⟩) (List.mem_of_getElem? (i := 2) rfl)) (hts (.static ⟨"java/lang/Float", "floatToRawIntBits", "(F)I"⟩) (List.mem_of_getElem? (i := 3) rfl)) (hts (.initialized "java/lang/Float") (List.mem_of_getElem? (i := 4) rfl)) (Nat.le_of_ble_eq_true rfl) (Nat.le_of_ble_eq_true rfl) dJxf58ca_floatToIntBits_5c35a_8 ?_
  exact end_roi hx hb hr rfl hS dJxf58ca_floatToIntBits_5c35a_11 hlk

set_option maxHeartbeats 4000000 in
set_option maxRecDepth 100000 in
theorem c_Jxe99ae_doubleToLongBits_ccdee (l : Launch) (x : UInt64) (hn : FP.Core.dIsNaN x = false) : Met l yJxe99ae_doubleToLongBits_ccdee wsJxe99ae_doubleToLongBits_ccdee (rmO 2 21) (va_Pc [.double x] (fun _ => True)) (roL x.toInt64) 0 0 nof := by
  refine Met.ofW (cc := cJxe99ae_doubleToLongBits_ccdee) (maxL := 2) (ret := (some .long)) (by decide) rfl ?_
  intro p e s m args below meth c s₁ B hml hv
  obtain ⟨rfl, hI⟩ := hv
  have hx := B.exec
  have hb := B.bytes
  have hr := B.returns
  have hts := atoms_spec (ws := wsJxe99ae_doubleToLongBits_ccdee) B.pre
  have hown : s.vm.findClass RJxe99ae = some m.cls := findClass_of_methodNamed B.named
  have hlk := B.notSynchronized
  have hS : va_S nof s.heap s.heap [] := va_S.rf
  have hl := lv_entry ([.double x]) (n := 2) (Nat.le_of_ble_eq_true rfl)
  rw [lg_entry_eq]
  generalize (lg_sl ([.double x]) ++ List.replicate (2 - (lg_sl ([.double x])).length) Slot.unset).toArray = ls at hl ⊢
  have hl : lv_has ls 2 [(0, .double x)] := hl
  refine lv_dload_n hx hb dJxe99ae_doubleToLongBits_ccdee_0 rfl (lv_at hl 0 rfl) ?_
  refine ro0_i (va_runS (As := [.double x]) (rest := []) ⟨hx, hb, hml, hown, hts⟩ (c_Jxe99ae_isNaN_b9ae7 l x hn) (va_cwS 1 hts gJxe99ae_doubleToLongBits_ccdee_Jxe99ae_isNaN_b9ae7 rfl rfl rfl (by decide +kernel) ⟨Nat.le_of_ble_eq_true rfl, Nat.le_of_ble_eq_true rfl⟩) preT rfl rfl hl.1 rfl (lv_room (Nat.le_of_ble_eq_true rfl)) dJxe99ae_doubleToLongBits_ccdee_1 ⟨Nat.le_of_ble_eq_true rfl, Nat.le_of_ble_eq_true rfl⟩) hS (fun H locs hS => ?_)
  refine lv_if_ne (tgt := 12) hx hb dJxe99ae_doubleToLongBits_ccdee_4 (by decide) (fun c4_1 => ?_) (fun c4_1 => ?_)
  · exact absurd c4_1 (by decide)
  refine lv_dload_n hx hb dJxe99ae_doubleToLongBits_ccdee_7 rfl (lv_at hl 0 rfl) ?_
  refine vn_d2l hx hb (hml.trans hl.1.symm) hown (hts (.methodLink RJxe99ae 134 ⟨"java/lang/Double", "doubleToRawLongBits", "(D)J"⟩) (List.mem_of_getElem? (i := 1) rfl)) (hts (.native ⟨"java/lang/Double", "doubleToRawLongBits", "(D)J"⟩) (List.mem_of_getElem? (i := 2) rfl)) (hts (.static ⟨"java/lang/Double", "doubleToRawLongBits", "(D)J"⟩) (List.mem_of_getElem? (i := 3) rfl)) (hts (.initialized "java/lang/Double") (List.mem_of_getElem? (i := 4) rfl)) (Nat.le_of_ble_eq_true rfl) (Nat.le_of_ble_eq_true rfl) dJxe99ae_doubleToLongBits_ccdee_8 ?_
  exact end_rol hx hb hr rfl hS dJxe99ae_doubleToLongBits_ccdee_11 hlk

set_option maxHeartbeats 4000000 in
set_option maxRecDepth 100000 in
theorem c_X4_scoreBits (l : Launch) (D : va_G) (cy : Nat → ClassId) (h0 : Nat) (q : Nat → Nat) (A : Nat → Nat → Int32) (S : Nat → Int32) (b : Int32) (nk : Nat) (hnk : nk ≤ 8) (hck : S 0 = nI nk) (nb : Nat) (hnb : nb ≤ 24) (hcb : S 1 = nI nb) : Met l yX4_scoreBits wsX4_scoreBits (rmO 5 91) (va_Pc [.ref (q 0), .int b] (pI D cy h0 (wM cy q A S))) (rwI (if mcR b nb = 0 then (smF A S (ix b) (-1) nk 4).toInt32 else 0) D cy h0 (wM cy q A (uS S 5 (mcR b nb))) (qA 18 q)) 0 0 (qA 18 q) := by
  refine Met.ofW (cc := cX4_scoreBits) (maxL := 2) (ret := (some .int)) (by decide) rfl ?_
  intro p e s m args below meth c s₁ B hml hv
  obtain ⟨rfl, hI⟩ := hv
  have hx := B.exec
  have hb := B.bytes
  have hr := B.returns
  have hts := atoms_spec (ws := wsX4_scoreBits) B.pre
  have hown : s.vm.findClass RX4 = some m.cls := findClass_of_methodNamed B.named
  have hlk := B.notSynchronized
  have hI : IH D cy h0 (wM cy q A S) s s.heap := hI
  have hG := hI.1
  have hqA := hA_M hI
  have hh0 : h0 ≤ s.heap.size := hI.1.2.2.2
  have hS : va_S nof s.heap s.heap [] := va_S.rf
  have hi4 : ∀ w ∈ wsX40, w ∈ wsX4_scoreBits := by decide +kernel
  have hl := lv_entry ([.ref (q 0), .int b]) (n := 2) (Nat.le_of_ble_eq_true rfl)
  rw [lg_entry_eq]
  generalize (lg_sl ([.ref (q 0), .int b]) ++ List.replicate (2 - (lg_sl ([.ref (q 0), .int b])).length) Slot.unset).toArray = ls at hl ⊢
  have hl : lv_has ls 2 [(0, .ref (q 0)), (1, .int b)] := hl
  refine lv_aload_n hx hb dX4_scoreBits_0 rfl (lv_at hl 0 rfl) ?_
  refine lv_iload_n hx hb dX4_scoreBits_1 rfl (lv_at hl 1 rfl) ?_
  have hS := hS.mono (B := qA 18 q) (fun _ h => h.elim)
  refine rw_i (w' := wM cy q A (uS S 5 (bI (noR b nb)))) (va_runV (As := [.int b]) (rest := []) ⟨hx, hb, hml, hown, hts⟩ (c_X4_isNoBuild l D cy h0 q A S b nb hnb hcb) (cwV 1 hts gX4_scoreBits_X4_isNoBuild rfl rfl rfl (by decide +kernel) ⟨Nat.le_of_ble_eq_true rfl, Nat.le_of_ble_eq_true rfl⟩) (hI.preV (k0 := 0) rfl rfl) rfl rfl hl.1 rfl (lv_room (Nat.le_of_ble_eq_true rfl)) dX4_scoreBits_2 ⟨Nat.le_of_ble_eq_true rfl, Nat.le_of_ble_eq_true rfl⟩) hI hS (fun _ h => h) hqA (fun H locs hI hS => ?_)
  refine r_ifeq_b (tgt := 12) hx hb dX4_scoreBits_5 (by decide) (fun c5_1 => ?_) (fun c5_1 => ?_)
  · obtain ⟨hj_b, hk_b⟩ := noR_c (by omega) c5_1
    refine lv_aload_n hx hb dX4_scoreBits_12 rfl (lv_at hl 0 rfl) ?_
    refine lv_iload_n hx hb dX4_scoreBits_13 rfl (lv_at hl 1 rfl) ?_
    refine lv_iconst (v := (-1)) hx hb dX4_scoreBits_14 (by decide) ?_
    refine ro_f (va_runV (As := [.int b, .int (-1)]) (rest := []) ⟨hx, hb, hml, hown, hts⟩ (c_X4_scoreOf l D cy h0 q A (uS S 5 (bI (noR b nb))) b (-1) nk hnk hck (ix b) (by omega) hk_b) (cwV 2 hts gX4_scoreBits_X4_scoreOf rfl rfl rfl (by decide +kernel) ⟨Nat.le_of_ble_eq_true rfl, Nat.le_of_ble_eq_true rfl⟩) (hI.preV (k0 := 0) rfl rfl) rfl rfl hl.1 rfl (lv_room (Nat.le_of_ble_eq_true rfl)) dX4_scoreBits_15 ⟨Nat.le_of_ble_eq_true rfl, Nat.le_of_ble_eq_true rfl⟩) hI hS (fun H locs hI hS => ?_)
    rw [smF_5]
    refine ro_i (va_runS (As := [.float (smF A S (ix b) (-1) nk 4)]) (rest := []) ⟨hx, hb, hml, hown, hts⟩ (c_Jxf58ca_floatToIntBits_5c35a l (smF A S (ix b) (-1) nk 4) (smF_nn _ _ _ _ _ _)) (va_cwS 1 hts gX4_scoreBits_Jxf58ca_floatToIntBits_5c35a rfl rfl rfl (by decide +kernel) ⟨Nat.le_of_ble_eq_true rfl, Nat.le_of_ble_eq_true rfl⟩) preT rfl rfl hl.1 rfl (lv_room (Nat.le_of_ble_eq_true rfl)) dX4_scoreBits_18 ⟨Nat.le_of_ble_eq_true rfl, Nat.le_of_ble_eq_true rfl⟩) hI hS (fun H locs hI hS => ?_)
    rw [show wM cy q A (uS S 5 (bI (noR b nb))) = wM cy q A (uS S 5 (mcR b nb)) from (wM_A (by first | rfl | (simp only [mcR, bI, c5_1,  ↓reduceIte, Bool.false_eq_true, reduceCtorEq, i10, i20, i30, i40]; done) | simp [mcR, bI, c5_1, ]) (by first | rfl | (simp only [mcR, bI, c5_1,  ↓reduceIte, Bool.false_eq_true, reduceCtorEq, i10, i20, i30, i40]; done) | simp [mcR, bI, c5_1, ]))] at hI
    exact end_rwi hx hb hr (by first | (simp only [mcR, bI, c5_1,  ↓reduceIte, Bool.false_eq_true, reduceCtorEq, i10, i20, i30, i40]; done) | simp [mcR, bI, c5_1, ]) hI hS dX4_scoreBits_21 hlk
  · refine lv_iconst (v := 0) hx hb dX4_scoreBits_8 (by decide) ?_
    refine lv_goto (tgt := 21) hx hb dX4_scoreBits_9 (by decide) ?_
    rw [show wM cy q A (uS S 5 (bI (noR b nb))) = wM cy q A (uS S 5 (mcR b nb)) from (wM_A (by first | rfl | (simp only [mcR, bI, c5_1,  ↓reduceIte, Bool.false_eq_true, reduceCtorEq, i10, i20, i30, i40]; done) | simp [mcR, bI, c5_1, ]) (by first | rfl | (simp only [mcR, bI, c5_1,  ↓reduceIte, Bool.false_eq_true, reduceCtorEq, i10, i20, i30, i40]; done) | simp [mcR, bI, c5_1, ]))] at hI
    exact end_rwi hx hb hr (by first | (simp only [mcR, bI, c5_1,  ↓reduceIte, Bool.false_eq_true, reduceCtorEq, i10, i20, i30, i40]; done) | simp [mcR, bI, c5_1, ]) hI hS dX4_scoreBits_21 hlk

set_option maxHeartbeats 4000000 in
set_option maxRecDepth 100000 in
theorem c_X4_scoreSumBits (l : Launch) (D : va_G) (cy : Nat → ClassId) (h0 : Nat) (q : Nat → Nat) (A : Nat → Nat → Int32) (S : Nat → Int32) (nk : Nat) (hnk : nk ≤ 8) (hck : S 0 = nI nk) (nb : Nat) (hnb : nb ≤ 24) (hcb : S 1 = nI nb) (hw : wOK (A 0)) : Met l yX4_scoreSumBits wsX4_scoreSumBits (rmO 5 91) (va_Pc [.ref (q 0)] (pI D cy h0 (wM cy q A S))) (rwL ((mdF A S nk nb).toInt64) D cy h0 (wM cy q A (uS S 5 0)) (qA 18 q)) 0 0 (qA 18 q) := by
  refine Met.ofW (cc := cX4_scoreSumBits) (maxL := 4) (ret := (some .long)) (by decide) rfl ?_
  intro p e s m args below meth c s₁ B hml hv
  obtain ⟨rfl, hI⟩ := hv
  have hx := B.exec
  have hb := B.bytes
  have hr := B.returns
  have hts := atoms_spec (ws := wsX4_scoreSumBits) B.pre
  have hown : s.vm.findClass RX4 = some m.cls := findClass_of_methodNamed B.named
  have hlk := B.notSynchronized
  have hI : IH D cy h0 (wM cy q A S) s s.heap := hI
  have hG := hI.1
  have hqA := hA_M hI
  have hh0 : h0 ≤ s.heap.size := hI.1.2.2.2
  have hS : va_S nof s.heap s.heap [] := va_S.rf
  have hi4 : ∀ w ∈ wsX40, w ∈ wsX4_scoreSumBits := by decide +kernel
  have hl := lv_entry ([.ref (q 0)]) (n := 4) (Nat.le_of_ble_eq_true rfl)
  rw [lg_entry_eq]
  generalize (lg_sl ([.ref (q 0)]) ++ List.replicate (4 - (lg_sl ([.ref (q 0)])).length) Slot.unset).toArray = ls at hl ⊢
  have hl : lv_has ls 4 [(0, .ref (q 0))] := hl
  refine lv_aload_n hx hb dX4_scoreSumBits_0 rfl (lv_at hl 0 rfl) ?_
  refine lv_iconst (v := 0) hx hb dX4_scoreSumBits_1 (by decide) ?_
  have hS := hS.mono (B := qA 18 q) (fun _ h => h.elim)
  refine r_put (w' := wM cy q A (uS S 5 0)) (C := RX4) (T := TX4) (N := 23) (k := 22) (q0 := 0) (ty := .int) (v := .int 0) hx hb hts hi4 tyX4_ok nmX4 hown hI hS hqA hh0 (qA_M hI) rfl rfl (by decide) (hts (.fieldLink RX4 66 "BuildlotsModel" "code" "I") (List.mem_of_getElem? (i := 1) rfl)) rfl rfl (by decide +kernel) rfl rfl (Nat.le_of_ble_eq_true rfl) dX4_scoreSumBits_2 rfl (fun H locs hI hS => ?_)
  refine lv_dconst0 hx hb dX4_scoreSumBits_5 ?_
  refine lv_dstore_n (lv' := [(1, .double FP.dconst0), (0, .ref (q 0))]) hx hb dX4_scoreSumBits_6 rfl hl (by decide) rfl (fun ls hl => ?_)
  refine lv_iconst (v := 0) hx hb dX4_scoreSumBits_7 (by decide) ?_
  refine lv_istore_n (lv' := [(3, .int 0), (1, .double FP.dconst0), (0, .ref (q 0))]) hx hb dX4_scoreSumBits_8 rfl hl (by decide) rfl (fun ls hl => ?_)
  suffices KL9 : ∀ (n9 k : Nat), k + n9 = nb → ∀ (H : Heap) (locs : List Loc), IH D cy h0 (wM cy q A (uS S 5 0)) s H → va_S (qA 18 q) s.heap H locs → ∀ ls : Array Slot, lv_has ls 4 [(3, .int (nI k)), (1, .double (mdF A S nk k)), (0, .ref (q 0))] → W p l e (headSpec wsX4_scoreSumBits (rmO 5 91)).room s m ([.ref (q 0)]).toArray below meth c H locs 0 0 (MQ below (rwL ((mdF A S nk nb).toInt64) D cy h0 (wM cy q A (uS S 5 0)) (qA 18 q)) ([.ref (q 0)]).toArray s 0 0 (qA 18 q)) (F0 m 9 ls []) by
    exact KL9 nb 0 (by omega) _ _ hI hS ls ((lv_sub hl [0, 1, 2] rfl))
  intro n9
  induction n9 with
  | zero =>
    intro k hk H locs hI hS ls hl
    have hk : nb = k := by omega
    subst hk
    refine lv_iload_n hx hb dX4_scoreSumBits_9 rfl (lv_at hl 0 rfl) ?_
    refine lv_aload_n hx hb dX4_scoreSumBits_10 rfl (lv_at hl 2 rfl) ?_
    refine r_get (C := RX4) (T := TX4) (N := 23) (k := 7) (q0 := 0) (v := .int (S 1)) hx hb hts hi4 hown hI rfl rfl (by decide) (hts (.fieldLink RX4 80 "BuildlotsModel" "builds" "I") (List.mem_of_getElem? (i := 2) rfl)) rfl rfl dX4_scoreSumBits_11 ?_
    refine lv_icmp_ge (tgt := 33) hx hb dX4_scoreSumBits_14 (by decide) (fun c14_1 => ?_) (fun c14_1 => ?_)
    rotate_left
    · exact absurd (i_ge rfl hcb (Nat.le_refl _) (by omega)) c14_1
    refine lv_dload_n hx hb dX4_scoreSumBits_33 rfl (lv_at hl 1 rfl) ?_
    refine ro_l (va_runS (As := [.double (mdF A S nk nb)]) (rest := []) ⟨hx, hb, hml, hown, hts⟩ (c_Jxe99ae_doubleToLongBits_ccdee l (mdF A S nk nb) (dOK_fin (md_ok hw S nk nb (by omega)) (by omega) (by omega)).notNaN) (va_cwS 1 hts gX4_scoreSumBits_Jxe99ae_doubleToLongBits_ccdee rfl rfl rfl (by decide +kernel) ⟨Nat.le_of_ble_eq_true rfl, Nat.le_of_ble_eq_true rfl⟩) preT rfl rfl hl.1 rfl (lv_room (Nat.le_of_ble_eq_true rfl)) dX4_scoreSumBits_34 ⟨Nat.le_of_ble_eq_true rfl, Nat.le_of_ble_eq_true rfl⟩) hI hS (fun H locs hI hS => ?_)
    exact end_rwl hx hb hr rfl hI hS dX4_scoreSumBits_37 hlk
  | succ n9 ih9 =>
    intro k hk H locs hI hS ls hl
    have hk9 : k < nb := by omega
    refine lv_iload_n hx hb dX4_scoreSumBits_9 rfl (lv_at hl 0 rfl) ?_
    refine lv_aload_n hx hb dX4_scoreSumBits_10 rfl (lv_at hl 2 rfl) ?_
    refine r_get (C := RX4) (T := TX4) (N := 23) (k := 7) (q0 := 0) (v := .int (S 1)) hx hb hts hi4 hown hI rfl rfl (by decide) (hts (.fieldLink RX4 80 "BuildlotsModel" "builds" "I") (List.mem_of_getElem? (i := 2) rfl)) rfl rfl dX4_scoreSumBits_11 ?_
    refine lv_icmp_ge (tgt := 33) hx hb dX4_scoreSumBits_14 (by decide) (fun c14_2 => ?_) (fun c14_2 => ?_)
    · exact absurd c14_2 (i_nge rfl hcb (by omega) (by omega))
    refine lv_dload_n hx hb dX4_scoreSumBits_17 rfl (lv_at hl 1 rfl) ?_
    refine lv_aload_n hx hb dX4_scoreSumBits_18 rfl (lv_at hl 2 rfl) ?_
    refine lv_iload_n hx hb dX4_scoreSumBits_19 rfl (lv_at hl 0 rfl) ?_
    refine lv_iconst (v := (-1)) hx hb dX4_scoreSumBits_20 (by decide) ?_
    refine ro_f (va_runV (As := [.int (nI k), .int (-1)]) (rest := [.double (mdF A S nk k)]) ⟨hx, hb, hml, hown, hts⟩ (c_X4_scoreOf l D cy h0 q A (uS S 5 0) (nI k) (-1) nk hnk hck k (by omega) rfl) (cwV 2 hts gX4_scoreSumBits_X4_scoreOf rfl rfl rfl (by decide +kernel) ⟨Nat.le_of_ble_eq_true rfl, Nat.le_of_ble_eq_true rfl⟩) (hI.preV (k0 := 0) rfl rfl) rfl rfl hl.1 rfl (lv_room (Nat.le_of_ble_eq_true rfl)) dX4_scoreSumBits_21 ⟨Nat.le_of_ble_eq_true rfl, Nat.le_of_ble_eq_true rfl⟩) hI hS (fun H locs hI hS => ?_)
    rw [smF_5]
    refine lv_f2d hx hb dX4_scoreSumBits_24 (nn_sf (sm_ok hw S k (-1) nk 4 (by decide))) ?_
    refine lv_dadd hx hb dX4_scoreSumBits_25 (nn_d (md_ok hw S nk (k + 1) (by omega)) (by omega) (by omega)) ?_
    refine lv_dstore_n (lv' := [(1, .double (FP.dadd (mdF A S nk k) (FP.f2d (smF A S k (-1) nk 4)))), (3, .int (nI k)), (0, .ref (q 0))]) hx hb dX4_scoreSumBits_26 rfl hl (by decide) rfl (fun ls hl => ?_)
    refine lv_iinc (v := nI (k + 1)) (lv' := [(3, .int (nI (k + 1))), (1, .double (FP.dadd (mdF A S nk k) (FP.f2d (smF A S k (-1) nk 4)))), (0, .ref (q 0))]) hx hb dX4_scoreSumBits_27 hl (k := 1) rfl (nI_1 k) (by decide) rfl (fun ls hl => ?_)
    refine lv_goto (tgt := 9) hx hb dX4_scoreSumBits_30 (by decide) ?_
    rw [show (FP.dadd (mdF A S nk k) (FP.f2d (smF A S k (-1) nk 4))) = (mdF A S nk (k + 1)) from rfl] at hl
    exact ih9 (k + 1) (by omega) _ _ hI hS ls (lv_sub hl [0, 1, 2] rfl)

set_option maxHeartbeats 4000000 in
set_option maxRecDepth 100000 in
theorem c_X4_build (l : Launch) (D : va_G) (cy : Nat → ClassId) (h0 : Nat) (q : Nat → Nat) (A : Nat → Nat → Int32) (S : Nat → Int32) (name : Int32) (inputs : Int32) (res : Int32) (nb : Nat) (hnb : nb ≤ 24) (hcb : S 1 = nI nb) : Met l yX4_build wsX4_build (rmO 3 44) (va_Pc [.ref (q 0), .int name, .int inputs, .int res] (pI D cy h0 (wM cy q A S))) (rwI (if mcBuild A S name inputs nb = 0 then S 1 else 0) D cy h0 (wM cy q (if mcBuild A S name inputs nb = 0 then uA (mbA A nb name (mvF (A 6) name nb) (muF (A 8) inputs nb)) 9 (upd (A 9) nb res) else A) (if mcBuild A S name inputs nb = 0 then uS (uS S 5 0) 1 (S 1 + 1) else uS S 5 (mcBuild A S name inputs nb))) (qA 18 q)) 0 0 (qA 18 q) := by
  refine Met.ofW (cc := cX4_build) (maxL := 5) (ret := (some .int)) (by decide) rfl ?_
  intro p e s m args below meth c s₁ B hml hv
  obtain ⟨rfl, hI⟩ := hv
  have hx := B.exec
  have hb := B.bytes
  have hr := B.returns
  have hts := atoms_spec (ws := wsX4_build) B.pre
  have hown : s.vm.findClass RX4 = some m.cls := findClass_of_methodNamed B.named
  have hlk := B.notSynchronized
  have hI : IH D cy h0 (wM cy q A S) s s.heap := hI
  have hG := hI.1
  have hqA := hA_M hI
  have hh0 : h0 ≤ s.heap.size := hI.1.2.2.2
  have hS : va_S nof s.heap s.heap [] := va_S.rf
  have hi4 : ∀ w ∈ wsX40, w ∈ wsX4_build := by decide +kernel
  have hl := lv_entry ([.ref (q 0), .int name, .int inputs, .int res]) (n := 5) (Nat.le_of_ble_eq_true rfl)
  rw [lg_entry_eq]
  generalize (lg_sl ([.ref (q 0), .int name, .int inputs, .int res]) ++ List.replicate (5 - (lg_sl ([.ref (q 0), .int name, .int inputs, .int res])).length) Slot.unset).toArray = ls at hl ⊢
  have hl : lv_has ls 5 [(0, .ref (q 0)), (1, .int name), (2, .int inputs), (3, .int res)] := hl
  refine lv_aload_n hx hb dX4_build_0 rfl (lv_at hl 0 rfl) ?_
  refine lv_iload_n hx hb dX4_build_1 rfl (lv_at hl 1 rfl) ?_
  refine ro_i (va_runS (As := [.int name]) (rest := [.ref (q 0)]) ⟨hx, hb, hml, hown, hts⟩ (c_X4_isNoName l name) (va_cwS 1 hts gX4_build_X4_isNoName rfl rfl rfl (by decide +kernel) ⟨Nat.le_of_ble_eq_true rfl, Nat.le_of_ble_eq_true rfl⟩) preT rfl rfl hl.1 rfl (lv_room (Nat.le_of_ble_eq_true rfl)) dX4_build_2 ⟨Nat.le_of_ble_eq_true rfl, Nat.le_of_ble_eq_true rfl⟩) hI hS (fun H locs hI hS => ?_)
  refine r_ifne_b (tgt := 24) hx hb dX4_build_5 (by decide) (fun c5_1 => ?_) (fun c5_1 => ?_)
  · refine lv_iconst (v := 1) hx hb dX4_build_24 (by decide) ?_
    refine lv_goto (tgt := 54) hx hb dX4_build_25 (by decide) ?_
    have hS := hS.mono (B := qA 18 q) (fun _ h => h.elim)
    refine rw_i (w' := wM cy q A (uS S 5 1)) (va_runV (As := [.int 1]) (rest := []) ⟨hx, hb, hml, hown, hts⟩ (c_X4_fails l D cy h0 q A S 1) (cwV 1 hts gX4_build_X4_fails rfl rfl rfl (by decide +kernel) ⟨Nat.le_of_ble_eq_true rfl, Nat.le_of_ble_eq_true rfl⟩) (hI.preV (k0 := 0) rfl rfl) rfl rfl hl.1 rfl (lv_room (Nat.le_of_ble_eq_true rfl)) dX4_build_54 ⟨Nat.le_of_ble_eq_true rfl, Nat.le_of_ble_eq_true rfl⟩) hI hS (fun _ h => h) hqA (fun H locs hI hS => ?_)
    rw [show (bI (failsB 1)) = 1 from (by decide)]
    refine lv_if_eq (tgt := 62) hx hb dX4_build_57 (by decide) (fun c57_2 => ?_) (fun c57_2 => ?_)
    · exact absurd c57_2 (by decide)
    refine lv_iconst (v := 0) hx hb dX4_build_60 (by decide) ?_
    rw [show wM cy q A (uS S 5 1) = wM cy q (if mcBuild A S name inputs nb = 0 then uA (mbA A nb name (mvF (A 6) name nb) (muF (A 8) inputs nb)) 9 (upd (A 9) nb res) else A) (if mcBuild A S name inputs nb = 0 then uS (uS S 5 0) 1 (S 1 + 1) else uS S 5 (mcBuild A S name inputs nb)) from (wM_A (by first | rfl | (simp only [sub1, mcBuild, bI, c5_1,  ↓reduceIte, Bool.false_eq_true, reduceCtorEq, i10, i20, i30, i40]; done) | simp [sub1, mcBuild, bI, c5_1, ]) (by first | rfl | (simp only [sub1, mcBuild, bI, c5_1,  ↓reduceIte, Bool.false_eq_true, reduceCtorEq, i10, i20, i30, i40]; done) | simp [sub1, mcBuild, bI, c5_1, ]))] at hI
    exact end_rwi hx hb hr (by first | (simp only [sub1, mcBuild, bI, c5_1,  ↓reduceIte, Bool.false_eq_true, reduceCtorEq, i10, i20, i30, i40]; done) | simp [sub1, mcBuild, bI, c5_1, ]) hI hS dX4_build_61 hlk
  · obtain ⟨hj_name, hk_name⟩ := noR_c (by omega) c5_1
    refine lv_iload_n hx hb dX4_build_8 rfl (lv_at hl 2 rfl) ?_
    refine lv_iconst (v := 0) hx hb dX4_build_9 (by decide) ?_
    refine lv_iconst (v := 1) hx hb dX4_build_10 (by decide) ?_
    refine lv_aload_n hx hb dX4_build_11 rfl (lv_at hl 0 rfl) ?_
    refine r_get (C := RX4) (T := TX4) (N := 23) (k := 7) (q0 := 0) (v := .int (S 1)) hx hb hts hi4 hown hI rfl rfl (by decide) (hts (.fieldLink RX4 80 "BuildlotsModel" "builds" "I") (List.mem_of_getElem? (i := 1) rfl)) rfl rfl dX4_build_12 ?_
    refine lv_ishl hx hb dX4_build_15 ?_
    refine lv_iconst (v := 1) hx hb dX4_build_16 (by decide) ?_
    refine lv_isub hx hb dX4_build_17 ?_
    refine ro_i (va_runS (As := [.int inputs, .int 0, .int (((1 : Int32) <<< ((S 1) &&& 31)) - 1)]) (rest := [.ref (q 0)]) ⟨hx, hb, hml, hown, hts⟩ (c_X4_in l inputs 0 (((1 : Int32) <<< ((S 1) &&& 31)) - 1)) (va_cwS 3 hts gX4_build_X4_in rfl rfl rfl (by decide +kernel) ⟨Nat.le_of_ble_eq_true rfl, Nat.le_of_ble_eq_true rfl⟩) preT rfl rfl hl.1 rfl (lv_room (Nat.le_of_ble_eq_true rfl)) dX4_build_18 ⟨Nat.le_of_ble_eq_true rfl, Nat.le_of_ble_eq_true rfl⟩) hI hS (fun H locs hI hS => ?_)
    refine r_ifne_b (tgt := 28) hx hb dX4_build_21 (by decide) (fun c21_3 => ?_) (fun c21_3 => ?_)
    · refine lv_aload_n hx hb dX4_build_28 rfl (lv_at hl 0 rfl) ?_
      refine lv_iload_n hx hb dX4_build_29 rfl (lv_at hl 2 rfl) ?_
      refine ro_i (va_runV (As := [.int inputs]) (rest := [.ref (q 0)]) ⟨hx, hb, hml, hown, hts⟩ (c_X4_areRecalled l D cy h0 q A S inputs nb hnb hcb) (cwV 1 hts gX4_build_X4_areRecalled rfl rfl rfl (by decide +kernel) ⟨Nat.le_of_ble_eq_true rfl, Nat.le_of_ble_eq_true rfl⟩) (hI.preV (k0 := 0) rfl rfl) rfl rfl hl.1 rfl (lv_room (Nat.le_of_ble_eq_true rfl)) dX4_build_30 ⟨Nat.le_of_ble_eq_true rfl, Nat.le_of_ble_eq_true rfl⟩) hI hS (fun H locs hI hS => ?_)
      refine r_ifeq_b (tgt := 40) hx hb dX4_build_33 (by decide) (fun c33_4 => ?_) (fun c33_4 => ?_)
      · refine lv_aload_n hx hb dX4_build_40 rfl (lv_at hl 0 rfl) ?_
        refine r_get (C := RX4) (T := TX4) (N := 23) (k := 7) (q0 := 0) (v := .int (S 1)) hx hb hts hi4 hown hI rfl rfl (by decide) (hts (.fieldLink RX4 80 "BuildlotsModel" "builds" "I") (List.mem_of_getElem? (i := 1) rfl)) rfl rfl dX4_build_41 ?_
        refine lv_bipush (v := 24) hx hb dX4_build_44 (by decide) ?_
        refine lv_icmp_ne (tgt := 53) hx hb dX4_build_46 (by decide) (fun c46_5 => ?_) (fun c46_5 => ?_)
        · refine lv_iconst (v := 0) hx hb dX4_build_53 (by decide) ?_
          have hS := hS.mono (B := qA 18 q) (fun _ h => h.elim)
          refine rw_i (w' := wM cy q A (uS S 5 0)) (va_runV (As := [.int 0]) (rest := []) ⟨hx, hb, hml, hown, hts⟩ (c_X4_fails l D cy h0 q A S 0) (cwV 1 hts gX4_build_X4_fails rfl rfl rfl (by decide +kernel) ⟨Nat.le_of_ble_eq_true rfl, Nat.le_of_ble_eq_true rfl⟩) (hI.preV (k0 := 0) rfl rfl) rfl rfl hl.1 rfl (lv_room (Nat.le_of_ble_eq_true rfl)) dX4_build_54 ⟨Nat.le_of_ble_eq_true rfl, Nat.le_of_ble_eq_true rfl⟩) hI hS (fun _ h => h) hqA (fun H locs hI hS => ?_)
          rw [show (bI (failsB 0)) = 0 from (by decide)]
          refine lv_if_eq (tgt := 62) hx hb dX4_build_57 (by decide) (fun c57_6 => ?_) (fun c57_6 => ?_)
          rotate_left
          · exact absurd c57_6 (by decide)
          have hlt : nb < 24 := ne_c hcb hnb (by decide) (show (24 : Int32) = nI 24 from rfl) c46_5
          refine lv_aload_n hx hb dX4_build_62 rfl (lv_at hl 0 rfl) ?_
          refine r_get (C := RX4) (T := TX4) (N := 23) (k := 8) (q0 := 0) (v := .ref (q 7)) hx hb hts hi4 hown hI rfl rfl (by decide) (hts (.fieldLink RX4 29 "BuildlotsModel" "names" "[I") (List.mem_of_getElem? (i := 2) rfl)) rfl rfl dX4_build_63 ?_
          refine lv_aload_n hx hb dX4_build_66 rfl (lv_at hl 0 rfl) ?_
          refine r_get (C := RX4) (T := TX4) (N := 23) (k := 7) (q0 := 0) (v := .int (S 1)) hx hb hts hi4 hown hI rfl rfl (by decide) (hts (.fieldLink RX4 80 "BuildlotsModel" "builds" "I") (List.mem_of_getElem? (i := 1) rfl)) rfl rfl dX4_build_67 ?_
          refine lv_iload_n hx hb dX4_build_70 rfl (lv_at hl 1 rfl) ?_
          refine r_iast (w' := wM cy q (uA A 6 (upd (A 6) nb name)) (uS S 5 0)) (q0 := 7) (j := nb) (n := 24) (f := (A 6)) hx hb hI hS hqA hh0 (qA_M hI) rfl hcb hlt (by decide) dX4_build_71 rfl (fun H locs hI hS => ?_)
          refine lv_aload_n hx hb dX4_build_72 rfl (lv_at hl 0 rfl) ?_
          refine r_get (C := RX4) (T := TX4) (N := 23) (k := 9) (q0 := 0) (v := .ref (q 8)) hx hb hts hi4 hown hI rfl rfl (by decide) (hts (.fieldLink RX4 32 "BuildlotsModel" "versions" "[I") (List.mem_of_getElem? (i := 3) rfl)) rfl rfl dX4_build_73 ?_
          refine lv_aload_n hx hb dX4_build_76 rfl (lv_at hl 0 rfl) ?_
          refine r_get (C := RX4) (T := TX4) (N := 23) (k := 7) (q0 := 0) (v := .int (S 1)) hx hb hts hi4 hown hI rfl rfl (by decide) (hts (.fieldLink RX4 80 "BuildlotsModel" "builds" "I") (List.mem_of_getElem? (i := 1) rfl)) rfl rfl dX4_build_77 ?_
          refine lv_iconst (v := 1) hx hb dX4_build_80 (by decide) ?_
          refine r_iast (w' := wM cy q (uA (uA A 6 (upd (A 6) nb name)) 7 (upd (A 7) nb 1)) (uS S 5 0)) (q0 := 8) (j := nb) (n := 24) (f := (A 7)) hx hb hI hS hqA hh0 (qA_M hI) rfl hcb hlt (by decide) dX4_build_81 rfl (fun H locs hI hS => ?_)
          refine lv_aload_n hx hb dX4_build_82 rfl (lv_at hl 0 rfl) ?_
          refine r_get (C := RX4) (T := TX4) (N := 23) (k := 10) (q0 := 0) (v := .ref (q 9)) hx hb hts hi4 hown hI rfl rfl (by decide) (hts (.fieldLink RX4 35 "BuildlotsModel" "used" "[I") (List.mem_of_getElem? (i := 4) rfl)) rfl rfl dX4_build_83 ?_
          refine lv_aload_n hx hb dX4_build_86 rfl (lv_at hl 0 rfl) ?_
          refine r_get (C := RX4) (T := TX4) (N := 23) (k := 7) (q0 := 0) (v := .int (S 1)) hx hb hts hi4 hown hI rfl rfl (by decide) (hts (.fieldLink RX4 80 "BuildlotsModel" "builds" "I") (List.mem_of_getElem? (i := 1) rfl)) rfl rfl dX4_build_87 ?_
          refine lv_iload_n hx hb dX4_build_90 rfl (lv_at hl 2 rfl) ?_
          refine r_iast (w' := wM cy q (uA (uA (uA A 6 (upd (A 6) nb name)) 7 (upd (A 7) nb 1)) 8 (upd (A 8) nb inputs)) (uS S 5 0)) (q0 := 9) (j := nb) (n := 24) (f := (A 8)) hx hb hI hS hqA hh0 (qA_M hI) rfl hcb hlt (by decide) dX4_build_91 rfl (fun H locs hI hS => ?_)
          rw [show wM cy q (uA (uA (uA A 6 (upd (A 6) nb name)) 7 (upd (A 7) nb 1)) 8 (upd (A 8) nb inputs)) (uS S 5 0) = wM cy q (mbA A nb name 1 inputs) (uS S 5 0) from rfl] at hI
          refine lv_iconst (v := 0) hx hb dX4_build_92 (by decide) ?_
          refine lv_istore (lv' := [(4, .int 0), (0, .ref (q 0)), (1, .int name), (2, .int inputs), (3, .int res)]) hx hb dX4_build_93 hl (by decide) rfl (fun ls hl => ?_)
          suffices KL95 : ∀ (n9 k : Nat), k + n9 = nb → ∀ (H : Heap) (locs : List Loc), IH D cy h0 (wM cy q (mbA A nb name (mvF (A 6) name k) (muF (A 8) inputs k)) (uS S 5 0)) s H → va_S (qA 18 q) s.heap H locs → ∀ ls : Array Slot, lv_has ls 5 [(4, .int (nI k)), (0, .ref (q 0)), (1, .int name), (2, .int inputs), (3, .int res)] → W p l e (headSpec wsX4_build (rmO 3 44)).room s m ([.ref (q 0), .int name, .int inputs, .int res]).toArray below meth c H locs 0 0 (MQ below (rwI (if mcBuild A S name inputs nb = 0 then S 1 else 0) D cy h0 (wM cy q (if mcBuild A S name inputs nb = 0 then uA (mbA A nb name (mvF (A 6) name nb) (muF (A 8) inputs nb)) 9 (upd (A 9) nb res) else A) (if mcBuild A S name inputs nb = 0 then uS (uS S 5 0) 1 (S 1 + 1) else uS S 5 (mcBuild A S name inputs nb))) (qA 18 q)) ([.ref (q 0), .int name, .int inputs, .int res]).toArray s 0 0 (qA 18 q)) (F0 m 95 ls []) by
            exact KL95 nb 0 (by omega) _ _ hI hS ls ((lv_sub hl [0, 1, 2, 3, 4] rfl))
          intro n9
          induction n9 with
          | zero =>
            intro k hk H locs hI hS ls hl
            have hk : nb = k := by omega
            subst hk
            refine lv_iload hx hb dX4_build_95 (lv_at hl 0 rfl) ?_
            refine lv_aload_n hx hb dX4_build_97 rfl (lv_at hl 1 rfl) ?_
            refine r_get (C := RX4) (T := TX4) (N := 23) (k := 7) (q0 := 0) (v := .int (S 1)) hx hb hts hi4 hown hI rfl rfl (by decide) (hts (.fieldLink RX4 80 "BuildlotsModel" "builds" "I") (List.mem_of_getElem? (i := 1) rfl)) rfl rfl dX4_build_98 ?_
            refine lv_icmp_ge (tgt := 163) hx hb dX4_build_101 (by decide) (fun c101_7 => ?_) (fun c101_7 => ?_)
            rotate_left
            · exact absurd (i_ge rfl hcb (Nat.le_refl _) (by omega)) c101_7
            refine lv_aload_n hx hb dX4_build_163 rfl (lv_at hl 1 rfl) ?_
            refine r_get (C := RX4) (T := TX4) (N := 23) (k := 11) (q0 := 0) (v := .ref (q 10)) hx hb hts hi4 hown hI rfl rfl (by decide) (hts (.fieldLink RX4 38 "BuildlotsModel" "results" "[I") (List.mem_of_getElem? (i := 5) rfl)) rfl rfl dX4_build_164 ?_
            refine lv_aload_n hx hb dX4_build_167 rfl (lv_at hl 1 rfl) ?_
            refine r_get (C := RX4) (T := TX4) (N := 23) (k := 7) (q0 := 0) (v := .int (S 1)) hx hb hts hi4 hown hI rfl rfl (by decide) (hts (.fieldLink RX4 80 "BuildlotsModel" "builds" "I") (List.mem_of_getElem? (i := 1) rfl)) rfl rfl dX4_build_168 ?_
            refine lv_iload_n hx hb dX4_build_171 rfl (lv_at hl 4 rfl) ?_
            refine r_iast (w' := wM cy q (uA (mbA A nb name (mvF (A 6) name nb) (muF (A 8) inputs nb)) 9 (upd (A 9) nb res)) (uS S 5 0)) (q0 := 10) (j := nb) (n := 24) (f := (A 9)) hx hb hI hS hqA hh0 (qA_M hI) rfl hcb hlt (by decide) dX4_build_172 rfl (fun H locs hI hS => ?_)
            refine lv_aload_n hx hb dX4_build_173 rfl (lv_at hl 1 rfl) ?_
            refine lv_dup hx hb dX4_build_174 rfl ?_
            refine r_get (C := RX4) (T := TX4) (N := 23) (k := 7) (q0 := 0) (v := .int (S 1)) hx hb hts hi4 hown hI rfl rfl (by decide) (hts (.fieldLink RX4 80 "BuildlotsModel" "builds" "I") (List.mem_of_getElem? (i := 1) rfl)) rfl rfl dX4_build_175 ?_
            refine lv_iconst (v := 1) hx hb dX4_build_178 (by decide) ?_
            refine lv_iadd hx hb dX4_build_179 ?_
            refine r_put (w' := wM cy q (uA (mbA A nb name (mvF (A 6) name nb) (muF (A 8) inputs nb)) 9 (upd (A 9) nb res)) (uS (uS S 5 0) 1 ((S 1) + 1))) (C := RX4) (T := TX4) (N := 23) (k := 7) (q0 := 0) (ty := .int) (v := .int ((S 1) + 1)) hx hb hts hi4 tyX4_ok nmX4 hown hI hS hqA hh0 (qA_M hI) rfl rfl (by decide) (hts (.fieldLink RX4 80 "BuildlotsModel" "builds" "I") (List.mem_of_getElem? (i := 1) rfl)) rfl rfl (by decide +kernel) rfl rfl (Nat.le_of_ble_eq_true rfl) dX4_build_180 rfl (fun H locs hI hS => ?_)
            refine lv_aload_n hx hb dX4_build_183 rfl (lv_at hl 1 rfl) ?_
            refine r_get (C := RX4) (T := TX4) (N := 23) (k := 7) (q0 := 0) (v := .int ((S 1) + 1)) hx hb hts hi4 hown hI rfl rfl (by decide) (hts (.fieldLink RX4 80 "BuildlotsModel" "builds" "I") (List.mem_of_getElem? (i := 1) rfl)) rfl rfl dX4_build_184 ?_
            refine lv_iconst (v := 1) hx hb dX4_build_187 (by decide) ?_
            refine lv_isub hx hb dX4_build_188 ?_
            rw [show wM cy q (uA (mbA A nb name (mvF (A 6) name nb) (muF (A 8) inputs nb)) 9 (upd (A 9) nb res)) (uS (uS S 5 0) 1 ((S 1) + 1)) = wM cy q (if mcBuild A S name inputs nb = 0 then uA (mbA A nb name (mvF (A 6) name nb) (muF (A 8) inputs nb)) 9 (upd (A 9) nb res) else A) (if mcBuild A S name inputs nb = 0 then uS (uS S 5 0) 1 (S 1 + 1) else uS S 5 (mcBuild A S name inputs nb)) from (wM_A (by first | rfl | (simp only [sub1, mcBuild, bI, c5_1, c21_3, c33_4, c46_5, c101_7,  ↓reduceIte, Bool.false_eq_true, reduceCtorEq, i10, i20, i30, i40]; done) | simp [sub1, mcBuild, bI, c5_1, c21_3, c33_4, c46_5, c101_7, ]) (by first | rfl | (simp only [sub1, mcBuild, bI, c5_1, c21_3, c33_4, c46_5, c101_7,  ↓reduceIte, Bool.false_eq_true, reduceCtorEq, i10, i20, i30, i40]; done) | simp [sub1, mcBuild, bI, c5_1, c21_3, c33_4, c46_5, c101_7, ]))] at hI
            exact end_rwi hx hb hr (by first | (simp only [sub1, mcBuild, bI, c5_1, c21_3, c33_4, c46_5, c101_7,  ↓reduceIte, Bool.false_eq_true, reduceCtorEq, i10, i20, i30, i40]; done) | simp [sub1, mcBuild, bI, c5_1, c21_3, c33_4, c46_5, c101_7, ]) hI hS dX4_build_189 hlk
          | succ n9 ih95 =>
            intro k hk H locs hI hS ls hl
            have hk95 : k < nb := by omega
            refine lv_iload hx hb dX4_build_95 (lv_at hl 0 rfl) ?_
            refine lv_aload_n hx hb dX4_build_97 rfl (lv_at hl 1 rfl) ?_
            refine r_get (C := RX4) (T := TX4) (N := 23) (k := 7) (q0 := 0) (v := .int (S 1)) hx hb hts hi4 hown hI rfl rfl (by decide) (hts (.fieldLink RX4 80 "BuildlotsModel" "builds" "I") (List.mem_of_getElem? (i := 1) rfl)) rfl rfl dX4_build_98 ?_
            refine lv_icmp_ge (tgt := 163) hx hb dX4_build_101 (by decide) (fun c101_8 => ?_) (fun c101_8 => ?_)
            · exact absurd c101_8 (i_nge rfl hcb (by omega) (by omega))
            refine lv_aload_n hx hb dX4_build_104 rfl (lv_at hl 1 rfl) ?_
            refine r_get (C := RX4) (T := TX4) (N := 23) (k := 8) (q0 := 0) (v := .ref (q 7)) hx hb hts hi4 hown hI rfl rfl (by decide) (hts (.fieldLink RX4 29 "BuildlotsModel" "names" "[I") (List.mem_of_getElem? (i := 2) rfl)) rfl rfl dX4_build_105 ?_
            refine lv_iload hx hb dX4_build_108 (lv_at hl 0 rfl) ?_
            refine r_iald (q0 := 7) (j := k) (n := 24) (f := (upd (A 6) nb name)) hx hb hI rfl rfl (by omega) (by decide) dX4_build_110 ?_
            rw [show ((upd (A 6) nb name) k) = A 6 k from (pk_un (by omega))]
            refine lv_iload_n hx hb dX4_build_111 rfl (lv_at hl 2 rfl) ?_
            refine lv_icmp_ne (tgt := 128) hx hb dX4_build_112 (by decide) (fun c112_9 => ?_) (fun c112_9 => ?_)
            · refine lv_iload_n hx hb dX4_build_128 rfl (lv_at hl 3 rfl) ?_
              refine lv_iload hx hb dX4_build_129 (lv_at hl 0 rfl) ?_
              refine lv_ishr hx hb dX4_build_131 ?_
              refine lv_iconst (v := 1) hx hb dX4_build_132 (by decide) ?_
              refine lv_iand hx hb dX4_build_133 ?_
              refine lv_iconst (v := 1) hx hb dX4_build_134 (by decide) ?_
              refine lv_icmp_ne (tgt := 157) hx hb dX4_build_135 (by decide) (fun c135_10 => ?_) (fun c135_10 => ?_)
              · refine lv_iinc (v := nI (k + 1)) (lv' := [(4, .int (nI (k + 1))), (0, .ref (q 0)), (1, .int name), (2, .int inputs), (3, .int res)]) hx hb dX4_build_157 hl (k := 0) rfl (nI_1 k) (by decide) rfl (fun ls hl => ?_)
                refine lv_goto (tgt := 95) hx hb dX4_build_160 (by decide) ?_
                rw [show wM cy q (mbA A nb name (mvF (A 6) name k) (muF (A 8) inputs k)) (uS S 5 0) = wM cy q (mbA A nb name (mvF (A 6) name (k + 1)) (muF (A 8) inputs (k + 1))) (uS S 5 0) from (wM_A (by simp only [mvF, muF, c5_1, c21_3, c33_4, c46_5, c101_8, c112_9, c135_10, ↓reduceIte]) rfl)] at hI
                exact ih95 (k + 1) (by omega) _ _ hI hS ls (lv_sub hl [0, 1, 2, 3, 4] rfl)
              · refine lv_aload_n hx hb dX4_build_138 rfl (lv_at hl 1 rfl) ?_
                refine r_get (C := RX4) (T := TX4) (N := 23) (k := 10) (q0 := 0) (v := .ref (q 9)) hx hb hts hi4 hown hI rfl rfl (by decide) (hts (.fieldLink RX4 35 "BuildlotsModel" "used" "[I") (List.mem_of_getElem? (i := 4) rfl)) rfl rfl dX4_build_139 ?_
                refine lv_aload_n hx hb dX4_build_142 rfl (lv_at hl 1 rfl) ?_
                refine r_get (C := RX4) (T := TX4) (N := 23) (k := 7) (q0 := 0) (v := .int (S 1)) hx hb hts hi4 hown hI rfl rfl (by decide) (hts (.fieldLink RX4 80 "BuildlotsModel" "builds" "I") (List.mem_of_getElem? (i := 1) rfl)) rfl rfl dX4_build_143 ?_
                refine lv_dup2_11 hx hb dX4_build_146 rfl rfl ?_
                refine r_iald (q0 := 9) (j := nb) (n := 24) (f := (upd (A 8) nb (muF (A 8) inputs k))) hx hb hI rfl hcb hlt (by decide) dX4_build_147 ?_
                rw [show ((upd (A 8) nb (muF (A 8) inputs k)) nb) = muF (A 8) inputs k from pk_us]
                refine lv_aload_n hx hb dX4_build_148 rfl (lv_at hl 1 rfl) ?_
                refine r_get (C := RX4) (T := TX4) (N := 23) (k := 10) (q0 := 0) (v := .ref (q 9)) hx hb hts hi4 hown hI rfl rfl (by decide) (hts (.fieldLink RX4 35 "BuildlotsModel" "used" "[I") (List.mem_of_getElem? (i := 4) rfl)) rfl rfl dX4_build_149 ?_
                refine lv_iload hx hb dX4_build_152 (lv_at hl 0 rfl) ?_
                refine r_iald (q0 := 9) (j := k) (n := 24) (f := (upd (A 8) nb (muF (A 8) inputs k))) hx hb hI rfl rfl (by omega) (by decide) dX4_build_154 ?_
                rw [show ((upd (A 8) nb (muF (A 8) inputs k)) k) = A 8 k from (pk_un (by omega))]
                refine lv_ior hx hb dX4_build_155 ?_
                refine r_iast (w' := wM cy q (uA (mbA A nb name (mvF (A 6) name k) (muF (A 8) inputs k)) 8 (upd (upd (A 8) nb (muF (A 8) inputs k)) nb ((muF (A 8) inputs k) ||| (A 8 k)))) (uS S 5 0)) (q0 := 9) (j := nb) (n := 24) (f := (upd (A 8) nb (muF (A 8) inputs k))) hx hb hI hS hqA hh0 (qA_M hI) rfl hcb hlt (by decide) dX4_build_156 rfl (fun H locs hI hS => ?_)
                rw [show wM cy q (uA (mbA A nb name (mvF (A 6) name k) (muF (A 8) inputs k)) 8 (upd (upd (A 8) nb (muF (A 8) inputs k)) nb ((muF (A 8) inputs k) ||| (A 8 k)))) (uS S 5 0) = wM cy q (mbA A nb name (mvF (A 6) name k) (muF (A 8) inputs k ||| A 8 k)) (uS S 5 0) from (wM_A (mb_8 _ _ _ _ _ _) rfl)] at hI
                refine lv_iinc (v := nI (k + 1)) (lv' := [(4, .int (nI (k + 1))), (0, .ref (q 0)), (1, .int name), (2, .int inputs), (3, .int res)]) hx hb dX4_build_157 hl (k := 0) rfl (nI_1 k) (by decide) rfl (fun ls hl => ?_)
                refine lv_goto (tgt := 95) hx hb dX4_build_160 (by decide) ?_
                rw [show wM cy q (mbA A nb name (mvF (A 6) name k) (muF (A 8) inputs k ||| A 8 k)) (uS S 5 0) = wM cy q (mbA A nb name (mvF (A 6) name (k + 1)) (muF (A 8) inputs (k + 1))) (uS S 5 0) from (wM_A (by simp only [mvF, muF, c5_1, c21_3, c33_4, c46_5, c101_8, c112_9, c135_10, ↓reduceIte]) rfl)] at hI
                exact ih95 (k + 1) (by omega) _ _ hI hS ls (lv_sub hl [0, 1, 2, 3, 4] rfl)
            · refine lv_aload_n hx hb dX4_build_115 rfl (lv_at hl 1 rfl) ?_
              refine r_get (C := RX4) (T := TX4) (N := 23) (k := 9) (q0 := 0) (v := .ref (q 8)) hx hb hts hi4 hown hI rfl rfl (by decide) (hts (.fieldLink RX4 32 "BuildlotsModel" "versions" "[I") (List.mem_of_getElem? (i := 3) rfl)) rfl rfl dX4_build_116 ?_
              refine lv_aload_n hx hb dX4_build_119 rfl (lv_at hl 1 rfl) ?_
              refine r_get (C := RX4) (T := TX4) (N := 23) (k := 7) (q0 := 0) (v := .int (S 1)) hx hb hts hi4 hown hI rfl rfl (by decide) (hts (.fieldLink RX4 80 "BuildlotsModel" "builds" "I") (List.mem_of_getElem? (i := 1) rfl)) rfl rfl dX4_build_120 ?_
              refine lv_dup2_11 hx hb dX4_build_123 rfl rfl ?_
              refine r_iald (q0 := 8) (j := nb) (n := 24) (f := (upd (A 7) nb (mvF (A 6) name k))) hx hb hI rfl hcb hlt (by decide) dX4_build_124 ?_
              rw [show ((upd (A 7) nb (mvF (A 6) name k)) nb) = mvF (A 6) name k from pk_us]
              refine lv_iconst (v := 1) hx hb dX4_build_125 (by decide) ?_
              refine lv_iadd hx hb dX4_build_126 ?_
              refine r_iast (w' := wM cy q (uA (mbA A nb name (mvF (A 6) name k) (muF (A 8) inputs k)) 7 (upd (upd (A 7) nb (mvF (A 6) name k)) nb ((mvF (A 6) name k) + 1))) (uS S 5 0)) (q0 := 8) (j := nb) (n := 24) (f := (upd (A 7) nb (mvF (A 6) name k))) hx hb hI hS hqA hh0 (qA_M hI) rfl hcb hlt (by decide) dX4_build_127 rfl (fun H locs hI hS => ?_)
              rw [show wM cy q (uA (mbA A nb name (mvF (A 6) name k) (muF (A 8) inputs k)) 7 (upd (upd (A 7) nb (mvF (A 6) name k)) nb ((mvF (A 6) name k) + 1))) (uS S 5 0) = wM cy q (mbA A nb name (mvF (A 6) name k + 1) (muF (A 8) inputs k)) (uS S 5 0) from (wM_A (mb_7 _ _ _ _ _ _) rfl)] at hI
              refine lv_iload_n hx hb dX4_build_128 rfl (lv_at hl 3 rfl) ?_
              refine lv_iload hx hb dX4_build_129 (lv_at hl 0 rfl) ?_
              refine lv_ishr hx hb dX4_build_131 ?_
              refine lv_iconst (v := 1) hx hb dX4_build_132 (by decide) ?_
              refine lv_iand hx hb dX4_build_133 ?_
              refine lv_iconst (v := 1) hx hb dX4_build_134 (by decide) ?_
              refine lv_icmp_ne (tgt := 157) hx hb dX4_build_135 (by decide) (fun c135_11 => ?_) (fun c135_11 => ?_)
              · refine lv_iinc (v := nI (k + 1)) (lv' := [(4, .int (nI (k + 1))), (0, .ref (q 0)), (1, .int name), (2, .int inputs), (3, .int res)]) hx hb dX4_build_157 hl (k := 0) rfl (nI_1 k) (by decide) rfl (fun ls hl => ?_)
                refine lv_goto (tgt := 95) hx hb dX4_build_160 (by decide) ?_
                rw [show wM cy q (mbA A nb name (mvF (A 6) name k + 1) (muF (A 8) inputs k)) (uS S 5 0) = wM cy q (mbA A nb name (mvF (A 6) name (k + 1)) (muF (A 8) inputs (k + 1))) (uS S 5 0) from (wM_A (by simp only [mvF, muF, c5_1, c21_3, c33_4, c46_5, c101_8, c112_9, c135_11, ↓reduceIte]) rfl)] at hI
                exact ih95 (k + 1) (by omega) _ _ hI hS ls (lv_sub hl [0, 1, 2, 3, 4] rfl)
              · refine lv_aload_n hx hb dX4_build_138 rfl (lv_at hl 1 rfl) ?_
                refine r_get (C := RX4) (T := TX4) (N := 23) (k := 10) (q0 := 0) (v := .ref (q 9)) hx hb hts hi4 hown hI rfl rfl (by decide) (hts (.fieldLink RX4 35 "BuildlotsModel" "used" "[I") (List.mem_of_getElem? (i := 4) rfl)) rfl rfl dX4_build_139 ?_
                refine lv_aload_n hx hb dX4_build_142 rfl (lv_at hl 1 rfl) ?_
                refine r_get (C := RX4) (T := TX4) (N := 23) (k := 7) (q0 := 0) (v := .int (S 1)) hx hb hts hi4 hown hI rfl rfl (by decide) (hts (.fieldLink RX4 80 "BuildlotsModel" "builds" "I") (List.mem_of_getElem? (i := 1) rfl)) rfl rfl dX4_build_143 ?_
                refine lv_dup2_11 hx hb dX4_build_146 rfl rfl ?_
                refine r_iald (q0 := 9) (j := nb) (n := 24) (f := (upd (A 8) nb (muF (A 8) inputs k))) hx hb hI rfl hcb hlt (by decide) dX4_build_147 ?_
                rw [show ((upd (A 8) nb (muF (A 8) inputs k)) nb) = muF (A 8) inputs k from pk_us]
                refine lv_aload_n hx hb dX4_build_148 rfl (lv_at hl 1 rfl) ?_
                refine r_get (C := RX4) (T := TX4) (N := 23) (k := 10) (q0 := 0) (v := .ref (q 9)) hx hb hts hi4 hown hI rfl rfl (by decide) (hts (.fieldLink RX4 35 "BuildlotsModel" "used" "[I") (List.mem_of_getElem? (i := 4) rfl)) rfl rfl dX4_build_149 ?_
                refine lv_iload hx hb dX4_build_152 (lv_at hl 0 rfl) ?_
                refine r_iald (q0 := 9) (j := k) (n := 24) (f := (upd (A 8) nb (muF (A 8) inputs k))) hx hb hI rfl rfl (by omega) (by decide) dX4_build_154 ?_
                rw [show ((upd (A 8) nb (muF (A 8) inputs k)) k) = A 8 k from (pk_un (by omega))]
                refine lv_ior hx hb dX4_build_155 ?_
                refine r_iast (w' := wM cy q (uA (mbA A nb name (mvF (A 6) name k + 1) (muF (A 8) inputs k)) 8 (upd (upd (A 8) nb (muF (A 8) inputs k)) nb ((muF (A 8) inputs k) ||| (A 8 k)))) (uS S 5 0)) (q0 := 9) (j := nb) (n := 24) (f := (upd (A 8) nb (muF (A 8) inputs k))) hx hb hI hS hqA hh0 (qA_M hI) rfl hcb hlt (by decide) dX4_build_156 rfl (fun H locs hI hS => ?_)
                rw [show wM cy q (uA (mbA A nb name (mvF (A 6) name k + 1) (muF (A 8) inputs k)) 8 (upd (upd (A 8) nb (muF (A 8) inputs k)) nb ((muF (A 8) inputs k) ||| (A 8 k)))) (uS S 5 0) = wM cy q (mbA A nb name (mvF (A 6) name k + 1) (muF (A 8) inputs k ||| A 8 k)) (uS S 5 0) from (wM_A (mb_8 _ _ _ _ _ _) rfl)] at hI
                refine lv_iinc (v := nI (k + 1)) (lv' := [(4, .int (nI (k + 1))), (0, .ref (q 0)), (1, .int name), (2, .int inputs), (3, .int res)]) hx hb dX4_build_157 hl (k := 0) rfl (nI_1 k) (by decide) rfl (fun ls hl => ?_)
                refine lv_goto (tgt := 95) hx hb dX4_build_160 (by decide) ?_
                rw [show wM cy q (mbA A nb name (mvF (A 6) name k + 1) (muF (A 8) inputs k ||| A 8 k)) (uS S 5 0) = wM cy q (mbA A nb name (mvF (A 6) name (k + 1)) (muF (A 8) inputs (k + 1))) (uS S 5 0) from (wM_A (by simp only [mvF, muF, c5_1, c21_3, c33_4, c46_5, c101_8, c112_9, c135_11, ↓reduceIte]) rfl)] at hI
                exact ih95 (k + 1) (by omega) _ _ hI hS ls (lv_sub hl [0, 1, 2, 3, 4] rfl)
        · refine lv_iconst (v := 3) hx hb dX4_build_49 (by decide) ?_
          refine lv_goto (tgt := 54) hx hb dX4_build_50 (by decide) ?_
          have hS := hS.mono (B := qA 18 q) (fun _ h => h.elim)
          refine rw_i (w' := wM cy q A (uS S 5 3)) (va_runV (As := [.int 3]) (rest := []) ⟨hx, hb, hml, hown, hts⟩ (c_X4_fails l D cy h0 q A S 3) (cwV 1 hts gX4_build_X4_fails rfl rfl rfl (by decide +kernel) ⟨Nat.le_of_ble_eq_true rfl, Nat.le_of_ble_eq_true rfl⟩) (hI.preV (k0 := 0) rfl rfl) rfl rfl hl.1 rfl (lv_room (Nat.le_of_ble_eq_true rfl)) dX4_build_54 ⟨Nat.le_of_ble_eq_true rfl, Nat.le_of_ble_eq_true rfl⟩) hI hS (fun _ h => h) hqA (fun H locs hI hS => ?_)
          rw [show (bI (failsB 3)) = 1 from (by decide)]
          refine lv_if_eq (tgt := 62) hx hb dX4_build_57 (by decide) (fun c57_12 => ?_) (fun c57_12 => ?_)
          · exact absurd c57_12 (by decide)
          refine lv_iconst (v := 0) hx hb dX4_build_60 (by decide) ?_
          rw [show wM cy q A (uS S 5 3) = wM cy q (if mcBuild A S name inputs nb = 0 then uA (mbA A nb name (mvF (A 6) name nb) (muF (A 8) inputs nb)) 9 (upd (A 9) nb res) else A) (if mcBuild A S name inputs nb = 0 then uS (uS S 5 0) 1 (S 1 + 1) else uS S 5 (mcBuild A S name inputs nb)) from (wM_A (by rw [(show mcBuild A S name inputs nb = 3 from by unfold mcBuild; rw [if_neg (by rw [c5_1]; decide), if_pos c21_3, if_neg (by rw [c33_4]; decide), if_pos c46_5])]; rfl) (by rw [(show mcBuild A S name inputs nb = 3 from by unfold mcBuild; rw [if_neg (by rw [c5_1]; decide), if_pos c21_3, if_neg (by rw [c33_4]; decide), if_pos c46_5])]; rfl))] at hI
          exact end_rwi hx hb hr (by rw [(show mcBuild A S name inputs nb = 3 from by unfold mcBuild; rw [if_neg (by rw [c5_1]; decide), if_pos c21_3, if_neg (by rw [c33_4]; decide), if_pos c46_5])]; rfl) hI hS dX4_build_61 hlk
      · refine lv_iconst (v := 2) hx hb dX4_build_36 (by decide) ?_
        refine lv_goto (tgt := 54) hx hb dX4_build_37 (by decide) ?_
        have hS := hS.mono (B := qA 18 q) (fun _ h => h.elim)
        refine rw_i (w' := wM cy q A (uS S 5 2)) (va_runV (As := [.int 2]) (rest := []) ⟨hx, hb, hml, hown, hts⟩ (c_X4_fails l D cy h0 q A S 2) (cwV 1 hts gX4_build_X4_fails rfl rfl rfl (by decide +kernel) ⟨Nat.le_of_ble_eq_true rfl, Nat.le_of_ble_eq_true rfl⟩) (hI.preV (k0 := 0) rfl rfl) rfl rfl hl.1 rfl (lv_room (Nat.le_of_ble_eq_true rfl)) dX4_build_54 ⟨Nat.le_of_ble_eq_true rfl, Nat.le_of_ble_eq_true rfl⟩) hI hS (fun _ h => h) hqA (fun H locs hI hS => ?_)
        rw [show (bI (failsB 2)) = 1 from (by decide)]
        refine lv_if_eq (tgt := 62) hx hb dX4_build_57 (by decide) (fun c57_13 => ?_) (fun c57_13 => ?_)
        · exact absurd c57_13 (by decide)
        refine lv_iconst (v := 0) hx hb dX4_build_60 (by decide) ?_
        rw [show wM cy q A (uS S 5 2) = wM cy q (if mcBuild A S name inputs nb = 0 then uA (mbA A nb name (mvF (A 6) name nb) (muF (A 8) inputs nb)) 9 (upd (A 9) nb res) else A) (if mcBuild A S name inputs nb = 0 then uS (uS S 5 0) 1 (S 1 + 1) else uS S 5 (mcBuild A S name inputs nb)) from (wM_A (by first | rfl | (simp only [sub1, mcBuild, bI, c5_1, c21_3, c33_4,  ↓reduceIte, Bool.false_eq_true, reduceCtorEq, i10, i20, i30, i40]; done) | simp [sub1, mcBuild, bI, c5_1, c21_3, c33_4, ]) (by first | rfl | (simp only [sub1, mcBuild, bI, c5_1, c21_3, c33_4,  ↓reduceIte, Bool.false_eq_true, reduceCtorEq, i10, i20, i30, i40]; done) | simp [sub1, mcBuild, bI, c5_1, c21_3, c33_4, ]))] at hI
        exact end_rwi hx hb hr (by first | (simp only [sub1, mcBuild, bI, c5_1, c21_3, c33_4,  ↓reduceIte, Bool.false_eq_true, reduceCtorEq, i10, i20, i30, i40]; done) | simp [sub1, mcBuild, bI, c5_1, c21_3, c33_4, ]) hI hS dX4_build_61 hlk
    · refine lv_iconst (v := 1) hx hb dX4_build_24 (by decide) ?_
      refine lv_goto (tgt := 54) hx hb dX4_build_25 (by decide) ?_
      have hS := hS.mono (B := qA 18 q) (fun _ h => h.elim)
      refine rw_i (w' := wM cy q A (uS S 5 1)) (va_runV (As := [.int 1]) (rest := []) ⟨hx, hb, hml, hown, hts⟩ (c_X4_fails l D cy h0 q A S 1) (cwV 1 hts gX4_build_X4_fails rfl rfl rfl (by decide +kernel) ⟨Nat.le_of_ble_eq_true rfl, Nat.le_of_ble_eq_true rfl⟩) (hI.preV (k0 := 0) rfl rfl) rfl rfl hl.1 rfl (lv_room (Nat.le_of_ble_eq_true rfl)) dX4_build_54 ⟨Nat.le_of_ble_eq_true rfl, Nat.le_of_ble_eq_true rfl⟩) hI hS (fun _ h => h) hqA (fun H locs hI hS => ?_)
      rw [show (bI (failsB 1)) = 1 from (by decide)]
      refine lv_if_eq (tgt := 62) hx hb dX4_build_57 (by decide) (fun c57_14 => ?_) (fun c57_14 => ?_)
      · exact absurd c57_14 (by decide)
      refine lv_iconst (v := 0) hx hb dX4_build_60 (by decide) ?_
      rw [show wM cy q A (uS S 5 1) = wM cy q (if mcBuild A S name inputs nb = 0 then uA (mbA A nb name (mvF (A 6) name nb) (muF (A 8) inputs nb)) 9 (upd (A 9) nb res) else A) (if mcBuild A S name inputs nb = 0 then uS (uS S 5 0) 1 (S 1 + 1) else uS S 5 (mcBuild A S name inputs nb)) from (wM_A (by first | rfl | (simp only [sub1, mcBuild, bI, c5_1, c21_3,  ↓reduceIte, Bool.false_eq_true, reduceCtorEq, i10, i20, i30, i40]; done) | simp [sub1, mcBuild, bI, c5_1, c21_3, ]) (by first | rfl | (simp only [sub1, mcBuild, bI, c5_1, c21_3,  ↓reduceIte, Bool.false_eq_true, reduceCtorEq, i10, i20, i30, i40]; done) | simp [sub1, mcBuild, bI, c5_1, c21_3, ]))] at hI
      exact end_rwi hx hb hr (by first | (simp only [sub1, mcBuild, bI, c5_1, c21_3,  ↓reduceIte, Bool.false_eq_true, reduceCtorEq, i10, i20, i30, i40]; done) | simp [sub1, mcBuild, bI, c5_1, c21_3, ]) hI hS dX4_build_61 hlk

