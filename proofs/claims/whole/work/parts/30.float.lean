/-! Doubles by their fields: halves, doubles, what is left of the fraction. -/
def dbl (E t : Nat) : UInt64 := UInt64.ofNat (E * 2 ^ 52 + t)
theorem dbl_nat {E t : Nat} (hE : E ≤ 2046) (ht : t < 2 ^ 52) : (dbl E t).toNat = E * 2 ^ 52 + t := by
  unfold dbl
  rw [UInt64.toNat_ofNat']
  exact Nat.mod_eq_of_lt (by omega)
theorem dbl_val {E t : Nat} (h1 : 1 ≤ E) (hE : E ≤ 2046) (ht : t < 2 ^ 52) : FP.Core.val64 (dbl E t) = .fin false (2 ^ 52 + t) ((E : Int) - 1075) := by
  unfold FP.Core.val64
  rw [dbl_nat hE ht]
  have e1 : E * 2 ^ 52 + t = FP.Core.assemble FP.Core.b64 false E t := by
    show _ = ((false.toNat) * FP.Core.b64.exps + E) * FP.Core.b64.tails + t
    rw [FP.Core.tails_b64]; simp
  have hx : FP.Core.b64.exps = 2048 := by decide
  rw [e1, FP.Core.decode_assemble _ _ _ _ (by rw [hx]; omega) (by rw [FP.Core.tails_b64]; exact ht), hx, if_neg (by omega), if_neg (by omega), FP.Core.tails_b64, FP.Core.qmin_b64]
  congr 1
  omega
theorem dbl_ne {E t : Nat} (h1 : 1 ≤ E) (hE : E ≤ 2046) (ht : t < 2 ^ 52) : FP.Core.val64 (dbl E t) ≠ .nan := by rw [dbl_val h1 hE ht]; exact FP.Core.Datum.noConfusion
theorem dbl_fits {E t : Nat} (h1 : 1 ≤ E) (hE : E ≤ 2046) (ht : t < 2 ^ 52) : FP.Core.fits FP.Core.b64 (.fin false (2 ^ 52 + t) ((E : Int) - 1075)) := by
  rw [← dbl_val h1 hE ht]; exact FP.Core.val64_fits _
theorem two_val : FP.Core.val64 4611686018427387904 = .fin false (2 ^ 52) (-51) := by decide +kernel
theorem p52_val : FP.Core.val64 4841369599423283200 = .fin false (2 ^ 52) 0 := by decide +kernel
theorem dbl_half {E t : Nat} (h1 : 1 ≤ E) (hE : E + 1 ≤ 2046) (ht : t < 2 ^ 52) : FP.ddiv (dbl (E + 1) t) 4611686018427387904 = dbl E t := by
  refine (FP.Core.val64_inj (dbl_ne h1 (by omega) ht) ?_).symm
  show _ = FP.Core.val64 (FP.Core.ddiv _ _)
  rw [FP.Core.val64_ddiv, dbl_val (by omega) hE ht, two_val, dbl_val h1 (by omega) ht]
  show _ = FP.Core.roundRatio FP.Core.b64 false (2 ^ 52 + t) (2 ^ 52) (((E + 1 : Nat) : Int) - 1075 - -51)
  refine (FP.Core.roundRatio_exact FP.Core.good_b64 (by decide) (dbl_fits h1 (by omega) ht) ?_).symm
  have e1 : (((E + 1 : Nat) : Int) - 1075 - -51 - ((E : Int) - 1075)).toNat = 52 := by omega
  have e2 : ((E : Int) - 1075 - (((E + 1 : Nat) : Int) - 1075 - -51)).toNat = 0 := by omega
  rw [e1, e2]
  omega
theorem dbl_two {E t : Nat} (h1 : 1 ≤ E) (hE : E + 1 ≤ 2046) (ht : t < 2 ^ 52) : FP.dmul (dbl E t) 4611686018427387904 = dbl (E + 1) t := by
  refine (FP.Core.val64_inj (dbl_ne (by omega) hE ht) ?_).symm
  show _ = FP.Core.val64 (FP.Core.dmul _ _)
  rw [FP.Core.val64_dmul, dbl_val h1 (by omega) ht, two_val, dbl_val (by omega) hE ht]
  show _ = FP.Core.roundRatio FP.Core.b64 false ((2 ^ 52 + t) * 2 ^ 52) 1 ((E : Int) - 1075 + -51)
  refine (FP.Core.roundRatio_exact FP.Core.good_b64 (by decide) (dbl_fits (by omega) hE ht) ?_).symm
  have e1 : ((E : Int) - 1075 + -51 - (((E + 1 : Nat) : Int) - 1075)).toNat = 0 := by omega
  have e2 : ((((E + 1 : Nat) : Int) - 1075) - ((E : Int) - 1075 + -51)).toNat = 52 := by omega
  rw [e1, e2]
  omega
/-- comparisons, by the bits -/
theorem dbl_cmp {E t n : Nat} {y : UInt64} (h1 : 1 ≤ E) (hE : E ≤ 2046) (ht : t < 2 ^ 52) (hy : FP.Core.val64 y ≠ .nan) (hn : y.toNat = n) (h63 : n < 2 ^ 63) :
    (FP.dcmp (dbl E t) y = some .lt ↔ E * 2 ^ 52 + t < n) ∧ (FP.dcmp (dbl E t) y = some .eq ↔ E * 2 ^ 52 + t = n) ∧ (FP.dcmp (dbl E t) y = some .gt ↔ n < E * 2 ^ 52 + t) := by
  have h := FP.Core.mono_bits (a := dbl E t) (b := y) (dbl_ne h1 hE ht) hy (by rw [dbl_nat hE ht]; omega) (by rw [hn]; exact h63)
  rw [dbl_nat hE ht, hn] at h
  exact h
theorem ne_of_fin {x : UInt64} {s : Bool} {c : Nat} {q : Int} (h : FP.Core.val64 x = .fin s c q) : FP.Core.val64 x ≠ .nan := by rw [h]; exact FP.Core.Datum.noConfusion
theorem dbl_lt2 {E t : Nat} (h1 : 1 ≤ E) (hE : E ≤ 2046) (ht : t < 2 ^ 52) (h : E < 1024) : Op.cmpValue (FP.dcmp (dbl E t) 4611686018427387904) CmpOp.l < 0 := by
  rw [((dbl_cmp (n := 4611686018427387904) h1 hE ht (ne_of_fin two_val) rfl (by decide)).1.mpr (by omega))]; decide
theorem dbl_ge2 {E t : Nat} (h1 : 1 ≤ E) (hE : E ≤ 2046) (ht : t < 2 ^ 52) (h : 1024 ≤ E) : ¬ Op.cmpValue (FP.dcmp (dbl E t) 4611686018427387904) CmpOp.l < 0 := by
  have h2 := dbl_cmp (n := 4611686018427387904) h1 hE ht (ne_of_fin two_val) rfl (by decide)
  rcases Nat.lt_or_eq_of_le (show 4611686018427387904 ≤ E * 2 ^ 52 + t by omega) with h3 | h3
  · rw [h2.2.2.mpr h3]; decide
  · rw [h2.2.1.mpr h3.symm]; decide
theorem dbl_ge1 {E t : Nat} (h1 : 1 ≤ E) (hE : E ≤ 2046) (ht : t < 2 ^ 52) (h : 1023 ≤ E) : 0 ≤ Op.cmpValue (FP.dcmp (dbl E t) FP.dconst1) CmpOp.g := by
  have h2 := dbl_cmp (n := 4607182418800017408) h1 hE ht (ne_of_fin FP.Core.val64_dconst1) rfl (by decide)
  have h2' : (FP.dcmp (dbl E t) FP.dconst1 = some .eq ↔ E * 2 ^ 52 + t = 4607182418800017408) ∧ (FP.dcmp (dbl E t) FP.dconst1 = some .gt ↔ 4607182418800017408 < E * 2 ^ 52 + t) := h2.2
  rcases Nat.lt_or_eq_of_le (show 4607182418800017408 ≤ E * 2 ^ 52 + t by omega) with h3 | h3
  · rw [h2'.2.mpr h3]; decide
  · rw [h2'.1.mpr h3.symm]; decide
theorem dbl_lt1 {E t : Nat} (h1 : 1 ≤ E) (hE : E ≤ 2046) (ht : t < 2 ^ 52) (h : E < 1023) : ¬ 0 ≤ Op.cmpValue (FP.dcmp (dbl E t) FP.dconst1) CmpOp.g := by
  have h2 : FP.dcmp (dbl E t) FP.dconst1 = some .lt ↔ E * 2 ^ 52 + t < 4607182418800017408 := (dbl_cmp (n := 4607182418800017408) h1 hE ht (ne_of_fin FP.Core.val64_dconst1) rfl (by decide)).1
  rw [h2.mpr (by omega)]; decide
theorem dbl_pos {E t : Nat} (h1 : 1 ≤ E) (hE : E ≤ 2046) (ht : t < 2 ^ 52) : 0 < Op.cmpValue (FP.dcmp (dbl E t) FP.dconst0) CmpOp.g := by
  have h2 : FP.dcmp (dbl E t) FP.dconst0 = some .gt ↔ 0 < E * 2 ^ 52 + t := (dbl_cmp (n := 0) h1 hE ht (ne_of_fin FP.Core.val64_dconst0) rfl (by decide)).2.2
  rw [h2.mpr (by omega)]; decide
/-- the fraction less one, in units of its last digit -/
theorem dbl_frac {t : Nat} (ht : t < 2 ^ 52) : ∃ c q, FP.Core.val64 (FP.dsub (dbl 1023 t) FP.dconst1) = .fin false c q ∧ FP.Core.DInt (t : Int) (FP.dmul (FP.dsub (dbl 1023 t) FP.dconst1) 4841369599423283200) := by
  have e0 : FP.Core.val64 (FP.dsub (dbl 1023 t) FP.dconst1) = FP.Core.round FP.Core.b64 (.fin false t (-52)) := by
    show FP.Core.val64 (FP.Core.dsub _ _) = _
    have h1 : FP.Core.val64 FP.dconst1 = .fin false (2 ^ 52) (-52) := FP.Core.val64_dconst1
    rw [FP.Core.val64_dsub, dbl_val (by decide) (by decide) ht, h1]
    congr 1
    show FP.Core.exactSum (.fin false (2 ^ 52 + t) (-52)) (.fin true (2 ^ 52) (-52)) = _
    have h2 : FP.Core.sumUnits false (2 ^ 52 + t) (-52) true (2 ^ 52) (-52) (min (-52) (-52)) = (t : Int) := by
      show FP.Core.signed false (FP.Core.inUnits (2 ^ 52 + t) (-52) (-52)) + FP.Core.signed true (FP.Core.inUnits (2 ^ 52) (-52) (-52)) = (t : Int)
      simp only [FP.Core.inUnits, FP.Core.signed, Int.sub_self, Int.toNat_zero, Nat.pow_zero, Nat.mul_one]
      simp
      omega
    show FP.Core.Datum.fin (FP.Core.sumSign false true _) _ _ = _
    rw [h2]
    have h3 : FP.Core.sumSign false true (t : Int) = false := by
      unfold FP.Core.sumSign
      split
      · rfl
      · simp
    rw [h3]
    rfl
  have hq1 : FP.Core.b64.qmin ≤ -52 := by decide
  have hq2 : (-52 : Int) ≤ FP.Core.b64.qmax := by decide
  obtain ⟨c', q', h1, h2⟩ := FP.Core.round_exact FP.Core.good_b64 false (c := t) (q := -52) (by show t < 2 ^ 53; omega) hq1 hq2
  refine ⟨c', q', e0.trans h1, ?_⟩
  have h3 : FP.Core.fits FP.Core.b64 (.fin false c' q') := by rw [← h1]; exact FP.Core.round_fits FP.Core.good_b64 _
  have h4 : FP.Core.Whole (t : Int) (.fin false (c' * 2 ^ 52) q') := by
    have hq : FP.Core.b64.qmin ≤ q' := h3.2.1
    rw [FP.Core.qmin_b64] at hq
    unfold FP.Core.inUnits at h2
    rw [FP.Core.qmin_b64] at h2
    have e1 : (-52 - -1074 : Int).toNat = 1022 := by decide
    rw [e1] at h2
    show FP.Core.signed false (c' * 2 ^ 52 * 2 ^ q'.toNat) = (t : Int) * ((2 ^ (-q').toNat : Nat) : Int)
    show ((c' * 2 ^ 52 * 2 ^ q'.toNat : Nat) : Int) = (t : Int) * ((2 ^ (-q').toNat : Nat) : Int)
    have key : c' * 2 ^ 52 * 2 ^ q'.toNat = t * 2 ^ (-q').toNat := by
      rcases Int.le_total 0 q' with hz | hz
      · obtain ⟨n, rfl⟩ := Int.eq_ofNat_of_zero_le hz
        have a1 : ((n : Int) - -1074).toNat = n + 1074 := by omega
        have a2 : (-(n : Int)).toNat = 0 := by omega
        have a3 : ((n : Int)).toNat = n := by omega
        rw [a1] at h2
        rw [a2, a3]
        have h5 : 2 ^ 1022 * (c' * 2 ^ 52 * 2 ^ n) = 2 ^ 1022 * (t * 2 ^ 0) := by
          have : c' * 2 ^ (n + 1074) = 2 ^ 1022 * (c' * 2 ^ 52 * 2 ^ n) := by
            rw [show n + 1074 = 1022 + 52 + n by omega, Nat.pow_add, Nat.pow_add]
            generalize 2 ^ 1022 = P
            generalize 2 ^ 52 = Q
            generalize 2 ^ n = N
            ac_rfl
          rw [← this, h2]; simp [Nat.mul_comm]
        exact Nat.eq_of_mul_eq_mul_left (Nat.two_pow_pos _) h5
      · obtain ⟨n, hn⟩ : ∃ n : Nat, q' = -(n : Int) := ⟨(-q').toNat, by omega⟩
        subst hn
        have hn2 : n ≤ 1074 := by omega
        have a1 : (-(n : Int) - -1074).toNat = 1074 - n := by omega
        have a2 : (- -(n : Int)).toNat = n := by omega
        have a3 : (-(n : Int)).toNat = 0 := by omega
        rw [a1] at h2
        rw [a2, a3]
        have h5 : 2 ^ 1022 * (c' * 2 ^ 52 * 2 ^ 0) = 2 ^ 1022 * (t * 2 ^ n) := by
          have b1 : 2 ^ 1022 * (c' * 2 ^ 52 * 2 ^ 0) = c' * 2 ^ (1074 - n) * 2 ^ n := by
            rw [Nat.mul_assoc c' (2 ^ (1074 - n)) (2 ^ n), ← Nat.pow_add, show 1074 - n + n = 1022 + 52 by omega, Nat.pow_add]
            rw [Nat.pow_zero, Nat.mul_one]
            generalize 2 ^ 1022 = P
            generalize 2 ^ 52 = Q
            ac_rfl
          rw [b1, h2]
          generalize 2 ^ 1022 = P
          generalize 2 ^ n = N
          ac_rfl
        exact Nat.eq_of_mul_eq_mul_left (Nat.two_pow_pos _) h5
    rw [key]
    simp
  show FP.Core.Whole (t : Int) (FP.Core.val64 (FP.Core.dmul _ _))
  rw [FP.Core.val64_dmul]
  refine FP.Core.whole_round FP.Core.good_b64 FP.Core.wide_b64 (by show ((t : Int)).natAbs ≤ 2 ^ 53; omega) ?_
  have e2 : FP.Core.val64 (FP.Core.dsub (dbl 1023 t) FP.dconst1) = .fin false c' q' := e0.trans h1
  rw [e2, p52_val]
  show FP.Core.Whole (t : Int) (.fin false (c' * 2 ^ 52) (q' + 0))
  rw [Int.add_zero]
  exact h4
theorem lN_int {t : Nat} (ht : t < 2 ^ 62) : (lN t).toInt = (t : Int) := pk_lT (by omega)
theorem dbl_last {t : Nat} (ht : t < 2 ^ 52) : FP.d2l (FP.dmul (FP.dsub (dbl 1023 t) FP.dconst1) 4841369599423283200) = lN t := by
  obtain ⟨c, q, -, h⟩ := dbl_frac ht
  exact FP.Core.d2l_int (by rw [lN_int (by omega)]; exact h)
theorem nn_last1 {t : Nat} (ht : t < 2 ^ 52) : vf_n64 (FP.dsub (dbl 1023 t) FP.dconst1) := by
  obtain ⟨c, q, h, -⟩ := dbl_frac ht
  exact nn64 ((FP.Core.notNaN_iff _).mpr (ne_of_fin h))
theorem nn_last2 {t : Nat} (ht : t < 2 ^ 52) : vf_n64 (FP.dmul (FP.dsub (dbl 1023 t) FP.dconst1) 4841369599423283200) := by
  obtain ⟨c, q, -, h⟩ := dbl_frac ht
  exact nn64 ((FP.Core.notNaN_iff _).mpr (FP.Core.DInt_ne_nan h))
theorem nn_half {E t : Nat} (h1 : 1 ≤ E) (hE : E + 1 ≤ 2046) (ht : t < 2 ^ 52) : vf_n64 (FP.ddiv (dbl (E + 1) t) 4611686018427387904) := by
  rw [dbl_half h1 hE ht]; exact nn64 ((FP.Core.notNaN_iff _).mpr (dbl_ne h1 (by omega) ht))
theorem nn_two {E t : Nat} (h1 : 1 ≤ E) (hE : E + 1 ≤ 2046) (ht : t < 2 ^ 52) : vf_n64 (FP.dmul (dbl E t) 4611686018427387904) := by
  rw [dbl_two h1 hE ht]; exact nn64 ((FP.Core.notNaN_iff _).mpr (dbl_ne (by omega) hE ht))
theorem dbl_lN {E t : Nat} (hE : E ≤ 2046) (ht : t < 2 ^ 52) : (dbl E t).toInt64 = lN (E * 2 ^ 52 + t) := rfl
theorem dbl_long {E t : Nat} (hE : E ≤ 2046) (ht : t < 2 ^ 52) : (lN E <<< (((52 : Int32).toInt64) &&& 63)) + lN t = (dbl E t).toInt64 := by
  have h1 := wb_shl E (k := 52) (by decide)
  rw [dbl_lN hE ht, ← lN_add, ← h1]
  rfl
