/-! The count of a set's members: bitCount's own steps and the model's loop. -/
theorem pc_and {a b c d k : Nat} (ha : a < 2 ^ k) (hc : c < 2 ^ k) : (a + 2 ^ k * b) &&& (c + 2 ^ k * d) = (a &&& c) + 2 ^ k * (b &&& d) := by
  have h1 : ((a + 2 ^ k * b) &&& (c + 2 ^ k * d)) % 2 ^ k = a &&& c := by
    rw [Nat.and_mod_two_pow, Nat.add_mul_mod_self_left, Nat.add_mul_mod_self_left, Nat.mod_eq_of_lt ha, Nat.mod_eq_of_lt hc]
  have h2 : ((a + 2 ^ k * b) &&& (c + 2 ^ k * d)) / 2 ^ k = b &&& d := by
    rw [Nat.and_div_two_pow, Nat.add_mul_div_left _ _ (Nat.two_pow_pos k), Nat.add_mul_div_left _ _ (Nat.two_pow_pos k), Nat.div_eq_of_lt ha, Nat.div_eq_of_lt hc, Nat.zero_add, Nat.zero_add]
  have h3 := Nat.mod_add_div ((a + 2 ^ k * b) &&& (c + 2 ^ k * d)) (2 ^ k)
  rw [h1, h2] at h3
  exact h3.symm
def p1 (n : Nat) : Nat := n - (n / 2 &&& 85)
def p2 (n : Nat) : Nat := (n &&& 51) + (n / 4 &&& 51)
def p3 (n : Nat) : Nat := n % 16 + n / 16
theorem p_a : ∀ a : Fin 256, ∀ e : Fin 2, ((a.val / 2 + 128 * e.val) &&& 85 = (a.val / 2 &&& 85)) ∧ (a.val / 2 &&& 85) ≤ a.val := by decide +kernel
theorem p_b : ∀ a : Fin 256, ∀ e : Fin 4, ((a.val / 4 + 64 * e.val) &&& 51 = (a.val / 4 &&& 51)) := by decide +kernel
theorem p_c : ∀ a : Fin 256, p2 (p1 a.val) / 16 ≤ 4 ∧ p2 (p1 a.val) % 16 ≤ 4 := by decide +kernel
theorem p_d : ∀ a : Fin 256, p3 (p2 (p1 a.val)) = fb_ct (fun i => a.val.testBit i) 8 := by decide +kernel
theorem n3and {a b c x y z : Nat} (ha : a < 256) (hb : b < 256) (hx : x < 256) (hy : y < 256) : (a + 256 * (b + 256 * c)) &&& (x + 256 * (y + 256 * z)) = (a &&& x) + 256 * ((b &&& y) + 256 * (c &&& z)) := by
  rw [pc_and (k := 8) ha hx, pc_and (k := 8) hb hy]
def q1 (n : Nat) : Nat := n - (n / 2 &&& 1431655765)
def q2 (n : Nat) : Nat := (n &&& 858993459) + (n / 4 &&& 858993459)
def q3 (n : Nat) : Nat := (n + n / 16) &&& 252645135
def q4 (n : Nat) : Nat := n + n / 256
def q5 (n : Nat) : Nat := n + n / 65536
theorem q1_b {a b c : Nat} (ha : a < 256) (hb : b < 256) (hc : c < 256) : q1 (a + 256 * (b + 256 * c)) = p1 a + 256 * (p1 b + 256 * p1 c) := by
  unfold q1
  have e : (a + 256 * (b + 256 * c)) / 2 = (a / 2 + 128 * (b % 2)) + 256 * ((b / 2 + 128 * (c % 2)) + 256 * (c / 2)) := by omega
  have m : (1431655765 : Nat) = 85 + 256 * (85 + 256 * 21845) := rfl
  rw [e, m, n3and (by omega) (by omega) (by decide) (by decide)]
  have h1 := p_a ⟨a, ha⟩ ⟨b % 2, by omega⟩
  have h2 := p_a ⟨b, hb⟩ ⟨c % 2, by omega⟩
  have h3 : c / 2 &&& 21845 = c / 2 &&& 85 := by
    have := pc_and (a := c / 2) (b := 0) (c := 85) (d := 85) (k := 8) (by omega) (by decide)
    simpa using this
  have h4 := (p_a ⟨c, hc⟩ ⟨0, by decide⟩).2
  simp only at h1 h2 h4
  rw [h1.1, h2.1, h3]
  unfold p1
  omega
theorem p1_lt {a : Nat} (ha : a < 256) : p1 a < 256 := by unfold p1; omega
theorem q2_b {a b c : Nat} (ha : a < 256) (hb : b < 256) (hc : c < 256) : q2 (a + 256 * (b + 256 * c)) = p2 a + 256 * (p2 b + 256 * p2 c) := by
  unfold q2
  have e : (a + 256 * (b + 256 * c)) / 4 = (a / 4 + 64 * (b % 4)) + 256 * ((b / 4 + 64 * (c % 4)) + 256 * (c / 4)) := by omega
  have m : (858993459 : Nat) = 51 + 256 * (51 + 256 * 13107) := rfl
  rw [e, m, n3and (by omega) (by omega) (by decide) (by decide), n3and (by omega) (by omega) (by decide) (by decide)]
  have h1 := p_b ⟨a, ha⟩ ⟨b % 4, by omega⟩
  have h2 := p_b ⟨b, hb⟩ ⟨c % 4, by omega⟩
  have hx : ∀ x, x < 256 → x &&& 13107 = x &&& 51 := fun x hx => by
    have := pc_and (a := x) (b := 0) (c := 51) (d := 51) (k := 8) hx (by decide)
    simpa using this
  simp only at h1 h2
  rw [h1, h2, hx c hc, hx (c / 4) (by omega)]
  unfold p2
  omega
theorem q3_b {a b c : Nat} (ha : a < 256) (hb : b < 256) (hc : c < 256) (h1 : a / 16 ≤ 4 ∧ a % 16 ≤ 4) (h2 : b / 16 ≤ 4 ∧ b % 16 ≤ 4) (h3 : c / 16 ≤ 4 ∧ c % 16 ≤ 4) : q3 (a + 256 * (b + 256 * c)) = p3 a + 256 * (p3 b + 256 * p3 c) := by
  unfold q3
  have e : (a + 256 * (b + 256 * c)) + (a + 256 * (b + 256 * c)) / 16 = (a + a / 16 + 16 * (b % 16)) + 256 * ((b + b / 16 + 16 * (c % 16)) + 256 * (c + c / 16)) := by omega
  have m : (252645135 : Nat) = 15 + 256 * (15 + 256 * 3855) := rfl
  have hx : ∀ x, x < 256 → x &&& 3855 = x &&& 15 := fun x hx => by
    have := pc_and (a := x) (b := 0) (c := 15) (d := 15) (k := 8) hx (by decide)
    simpa using this
  have hm : ∀ x : Nat, x &&& 15 = x % 16 := fun x => Nat.and_two_pow_sub_one_eq_mod x 4
  rw [e, m, n3and (by omega) (by omega) (by decide) (by decide), hx _ (by omega), hm, hm, hm]
  unfold p3
  have f1 : (a + a / 16 + 16 * (b % 16)) % 16 = a % 16 + a / 16 := by omega
  have f2 : (b + b / 16 + 16 * (c % 16)) % 16 = b % 16 + b / 16 := by omega
  have f3 : (c + c / 16) % 16 = c % 16 + c / 16 := by omega
  rw [f1, f2, f3]
theorem q45 {x y z : Nat} (hx : x ≤ 8) (hy : y ≤ 8) (hz : z ≤ 8) : q5 (q4 (x + 256 * (y + 256 * z))) % 64 = x + (y + z) := by
  unfold q5 q4
  have h1 : (x + 256 * (y + 256 * z)) / 256 = y + 256 * z := by omega
  rw [h1]
  have h2 : (x + 256 * (y + 256 * z) + (y + 256 * z)) / 65536 = z := by omega
  rw [h2]
  omega
theorem pop_nat {n : Nat} (h : n < 2 ^ 24) : q5 (q4 (q3 (q2 (q1 n)))) % 64 = fb_ct (fun i => n.testBit i) 24 := by
  obtain ⟨a, b, c, ha, hb, hc, rfl⟩ : ∃ a b c, a < 256 ∧ b < 256 ∧ c < 256 ∧ n = a + 256 * (b + 256 * c) := ⟨n % 256, n / 256 % 256, n / 65536, by omega, by omega, by omega, by omega⟩
  have l2 : ∀ x : Fin 256, p2 (p1 x.val) < 256 := by decide +kernel
  rw [q1_b ha hb hc, q2_b (p1_lt ha) (p1_lt hb) (p1_lt hc), q3_b (l2 ⟨a, ha⟩) (l2 ⟨b, hb⟩) (l2 ⟨c, hc⟩) (p_c ⟨a, ha⟩) (p_c ⟨b, hb⟩) (p_c ⟨c, hc⟩)]
  have da := p_d ⟨a, ha⟩
  have db := p_d ⟨b, hb⟩
  have dc := p_d ⟨c, hc⟩
  simp only at da db dc
  rw [da, db, dc]
  have e1 : fb_ct (fun i => (a + 256 * (b + 256 * c)).testBit i) 24 = fb_ct (fun i => a.testBit i) 8 + (fb_ct (fun i => b.testBit i) 8 + fb_ct (fun i => c.testBit i) 8) := by
    rw [fb_ct_split _ 8 16, fb_ct_split _ 8 8]
    have t : ∀ x y i : Nat, x < 256 → i < 8 → (x + 256 * y).testBit i = x.testBit i := fun x y i hx hi => by
      rw [show x + 256 * y = 2 ^ 8 * y + x by omega, Nat.testBit_two_pow_mul_add _ hx, if_pos hi]
    have u : ∀ x y i : Nat, x < 256 → (x + 256 * y).testBit (8 + i) = y.testBit i := fun x y i hx => by
      rw [show x + 256 * y = 2 ^ 8 * y + x by omega, Nat.testBit_two_pow_mul_add _ hx, if_neg (by omega), Nat.add_sub_cancel_left]
    refine congr (congrArg _ (fb_ct_cong fun k hk => t _ _ k ha hk)) (congr (congrArg _ (fb_ct_cong fun k hk => ?_)) (fb_ct_cong fun k hk => ?_))
    · show (a + 256 * (b + 256 * c)).testBit (8 + k) = _
      rw [u _ _ _ ha, t _ _ _ hb hk]
    · show (a + 256 * (b + 256 * c)).testBit (8 + (8 + k)) = _
      rw [u _ _ _ ha, u _ _ _ hb]
  rw [e1]
  exact q45 (fb_ct_le _ 8) (fb_ct_le _ 8) (fb_ct_le _ 8)
/-! over Int32 -/
theorem ish {n k : Nat} (hk : k < 32) (hn : n < 2 ^ 31) : ((nI n).toUInt32 >>> ((nI k).toUInt32 &&& Int32.toUInt32 31)).toInt32 = nI (n / 2 ^ k) := by
  apply b_ext
  intro i hi
  rw [b_ushr k hk]
  show (BitVec.ofNat 32 n).getLsbD (k + i) = (BitVec.ofNat 32 (n / 2 ^ k)).getLsbD i
  rw [BitVec.getLsbD_ofNat, BitVec.getLsbD_ofNat, Nat.testBit_div_two_pow]
  by_cases h : k + i < 32
  · simp [h, hi, Nat.add_comm]
  · have h1 : n.testBit (i + k) = false := Nat.testBit_lt_two_pow (Nat.lt_of_lt_of_le hn (Nat.pow_le_pow_right (by decide) (by omega)))
    simp [h, h1]
theorem isub {a b : Nat} (h : b ≤ a) : nI a - nI b = nI (a - b) := by
  apply Int32.toBitVec_inj.mp
  rw [Int32.toBitVec_sub]
  show BitVec.ofNat 32 a - BitVec.ofNat 32 b = BitVec.ofNat 32 (a - b)
  apply BitVec.eq_of_toNat_eq
  rw [BitVec.toNat_sub, BitVec.toNat_ofNat, BitVec.toNat_ofNat, BitVec.toNat_ofNat]
  omega
theorem iadd (a b : Nat) : nI a + nI b = nI (a + b) := by
  apply Int32.toBitVec_inj.mp
  rw [Int32.toBitVec_add]
  show BitVec.ofNat 32 a + BitVec.ofNat 32 b = BitVec.ofNat 32 (a + b)
  rw [BitVec.ofNat_add]
theorem bt_n {n i : Nat} (hi : i < 32) : bt (nI n) i = n.testBit i := by
  show (BitVec.ofNat 32 n).getLsbD i = _
  rw [BitVec.getLsbD_ofNat]; simp [hi]
theorem bc1_n {n : Nat} (h : n < 2 ^ 31) : bc1 (nI n) = nI (q1 n) := by
  unfold bc1 q1
  rw [show ((1 : Int32)) = nI 1 from rfl, ish (by decide) h, show (1431655765 : Int32) = nI 1431655765 from rfl, fa_and]
  exact isub (Nat.le_trans Nat.and_le_left (Nat.div_le_self _ _))
theorem bc2_n {n : Nat} (h : n < 2 ^ 31) : bc2 (nI n) = nI (q2 n) := by
  unfold bc2 q2
  rw [show ((2 : Int32)) = nI 2 from rfl, ish (by decide) h, show (858993459 : Int32) = nI 858993459 from rfl, fa_and, fa_and]
  exact iadd _ _
theorem bc3_n {n : Nat} (h : n < 2 ^ 31) : bc3 (nI n) = nI (q3 n) := by
  unfold bc3 q3
  rw [show ((4 : Int32)) = nI 4 from rfl, ish (by decide) h, show (252645135 : Int32) = nI 252645135 from rfl, iadd, fa_and]
theorem bc4_n {n : Nat} (h : n < 2 ^ 31) : bc4 (nI n) = nI (q4 n) := by
  unfold bc4 q4
  rw [show ((8 : Int32)) = nI 8 from rfl, ish (by decide) h, iadd]
theorem bc5_n {n : Nat} (h : n < 2 ^ 31) : bc5 (nI n) = nI (q5 n) := by
  unfold bc5 q5
  rw [show ((16 : Int32)) = nI 16 from rfl, ish (by decide) h, iadd]
theorem q1_le (n : Nat) : q1 n ≤ n := Nat.sub_le _ _
theorem q2_le (n : Nat) : q2 n ≤ 858993459 + 858993459 := Nat.add_le_add Nat.and_le_right Nat.and_le_right
theorem q3_le (n : Nat) : q3 n ≤ 252645135 := Nat.and_le_right
theorem bc_n {n : Nat} (h : n < 2 ^ 24) : bcF (nI n) = nI (fb_ct (fun i => n.testBit i) 24) := by
  have h1 := q1_le n
  have h2 := q2_le (q1 n)
  have h3 := q3_le (q2 (q1 n))
  have h4 : q4 (q3 (q2 (q1 n))) < 2 ^ 31 := by unfold q4; omega
  unfold bcF
  rw [bc1_n (by omega), bc2_n (by omega), bc3_n (by omega), bc4_n (by omega), bc5_n h4, show (63 : Int32) = nI (2 ^ 6 - 1) from rfl, fa_mask, ← pop_nat h]
/-- nothing from n on -/
def bd (n : Nat) (x : Int32) : Prop := ∀ i, n ≤ i → bt x i = false
theorem bd_n {x : Int32} (h : bd 24 x) : ∃ n, n < 2 ^ 24 ∧ x = nI n := by
  obtain ⟨n, hn, rfl⟩ := wb_of32 x
  refine ⟨n, Nat.lt_pow_two_of_testBit n (fun i hi => ?_), rfl⟩
  rcases Nat.lt_or_ge i 32 with h32 | h32
  · rw [← bt_n h32]; exact h i hi
  · exact Nat.testBit_lt_two_pow (Nat.lt_of_lt_of_le hn (Nat.pow_le_pow_right (by decide) h32))
theorem bc_ct {x : Int32} (h : bd 24 x) : bcF x = nI (fb_ct (bt x) 24) := by
  obtain ⟨n, hn, rfl⟩ := bd_n h
  rw [bc_n hn]
  exact congrArg nI (fb_ct_cong fun k hk => (bt_n (by omega)).symm)
