/-! Sets of bits: what the class's and the model's loops make. -/
theorem bt_1 (i : Nat) : bt 1 i = decide (i = 0) := by
  rcases Nat.lt_or_ge i 32 with h | h
  · exact (by decide +kernel : ∀ i : Fin 32, bt 1 i.val = decide (i.val = 0)) ⟨i, h⟩
  · rw [b_big h]; exact (decide_eq_false (by omega)).symm
theorem bt_ly {n i : Nat} (hn : n < 32) : bt (ly (nI n)) i = decide (i = n) := by
  rcases Nat.lt_or_ge i 32 with h | h
  · exact (by decide +kernel : ∀ n i : Fin 32, bt (ly (nI n.val)) i.val = decide (i.val = n.val)) ⟨n, hn⟩ ⟨i, h⟩
  · rw [b_big h]; exact (decide_eq_false (by omega)).symm
theorem bt_pred {n i : Nat} (hn : n < 32) (hi : i < 32) : bt (ly (nI n) - 1) i = decide (i < n) :=
  (by decide +kernel : ∀ n i : Fin 32, bt (ly (nI n.val) - 1) i.val = decide (i.val < n.val)) ⟨n, hn⟩ ⟨i, hi⟩
theorem bt_not (x : Int32) {i : Nat} (hi : i < 32) : bt (x ^^^ (-1)) i = !bt x i := by rw [b_xor, b_m1 i hi]; cases bt x i <;> rfl
theorem and0 {x y : Int32} : x &&& y = 0 ↔ ∀ i, i < 32 → (bt x i && bt y i) = false := by
  constructor
  · intro h i _
    rw [← b_and, h, b_0]
  · intro h
    exact b_ext fun i hi => by rw [b_and, h i hi, b_0]
theorem bt_hold (x : Int32) {n : Nat} (hn : n < 32) : hold x (nI n) = bt x n := by
  unfold hold
  by_cases h : x &&& ly (nI n) = 0
  · have h1 := and0.mp h n hn
    rw [bt_ly hn, decide_eq_true rfl, Bool.and_true] at h1
    rw [h1]; simp [h]
  · rw [decide_eq_false h]
    cases hb : bt x n with
    | true => rfl
    | false =>
      refine absurd (and0.mpr fun i hi => ?_) h
      rw [bt_ly hn]
      by_cases e : i = n
      · subst e; rw [hb]; rfl
      · rw [decide_eq_false e, Bool.and_false]
theorem sh_val (x : Int32) {n : Nat} (hn : n < 32) : (x >>> (nI n &&& 31)) &&& 1 = if bt x n = true then 1 else 0 := by
  refine b_ext fun i hi => ?_
  rw [b_and, b_sshr n hn x hi, bt_1]
  by_cases h0 : i = 0
  · subst h0
    rw [if_pos (by omega), Nat.add_zero]
    cases bt x n <;> simp [bt_1, b_0]
  · rw [decide_eq_false h0, Bool.and_false]
    cases bt x n <;> simp [bt_1, b_0, h0]
theorem bt_sh (x : Int32) {n : Nat} (hn : n < 32) : ((x >>> (nI n &&& 31)) &&& 1 = 1) ↔ bt x n = true := by
  rw [sh_val x hn]
  cases bt x n <;> decide
theorem bt_shd (x : Int32) {n : Nat} (hn : n < 32) : decide ((x >>> (nI n &&& 31)) &&& 1 = 1) = bt x n := by
  rw [sh_val x hn]
  cases bt x n <;> rfl
theorem btF_ct (x : Int32) : ∀ n, n ≤ 32 → btF x n = nI (fb_ct (bt x) n)
  | 0, _ => rfl
  | n + 1, h => by
    unfold btF
    rw [btF_ct x n (by omega), sh_val x (by omega), fb_ct_succ]
    cases bt x n with
    | true => exact iadd _ 1
    | false => exact iadd _ 0
/-- bitCount and the model's loop agree -/
theorem bc_btF {x : Int32} (h : bd 24 x) : bcF x = btF x 24 := by rw [bc_ct h, btF_ct x 24 (by decide)]
/-- the set of those with a property -/
def stF (p : Nat → Bool) : Nat → Int32
  | 0 => 0
  | k + 1 => if p k = true then stF p k ||| ly (nI k) else stF p k
theorem bt_st (p : Nat → Bool) (i : Nat) : ∀ n, n ≤ 32 → bt (stF p n) i = (decide (i < n) && p i)
  | 0, _ => by show bt 0 i = _; rw [b_0]; simp
  | n + 1, h => by
    unfold stF
    have ih := bt_st p i n (by omega)
    by_cases hp : p n = true
    · rw [if_pos hp, b_or, ih, bt_ly (by omega)]
      by_cases e : i = n
      · subst e; simp [hp]
      · have : (i < n + 1) ↔ i < n := by omega
        simp [e, this]
    · rw [if_neg hp, ih]
      by_cases e : i = n
      · subst e; simp [hp]
      · have : (i < n + 1) ↔ i < n := by omega
        simp [this]
theorem st_bd (p : Nat → Bool) {n : Nat} (h : n ≤ 32) : bd n (stF p n) := fun i hi => by rw [bt_st p i n h, decide_eq_false (by omega)]; rfl
theorem st_cong {p q : Nat → Bool} : ∀ {n : Nat}, (∀ k, k < n → p k = q k) → stF p n = stF q n
  | 0, _ => rfl
  | n + 1, h => by unfold stF; rw [st_cong fun k hk => h k (by omega), h n (by omega)]
theorem tbF_st (A : Nat → Nat → Int32) : ∀ n, tbF A n = stF (fun k => sufB A (A 10 k) k) n
  | 0 => rfl
  | n + 1 => by unfold tbF stF; rw [tbF_st A n]
theorem liveF_st (A : Nat → Nat → Int32) (S : Nat → Int32) (day : Int32) : ∀ n, liveF A S day n = stF (fun k => liveB A S k day) n
  | 0 => rfl
  | n + 1 => by unfold liveF stF; rw [liveF_st A S day n]
theorem twF_st (B : Nat → Nat → Int32) (T : Nat → Int32) (lo : Int32) (nk : Nat) : ∀ n, twF B T lo nk n = stF (fun k => enB B T k lo nk) n
  | 0 => rfl
  | n + 1 => by unfold twF stF; rw [twF_st B T lo nk n]; rfl
theorem rmF_st (B : Nat → Nat → Int32) : ∀ n, rmF B n = stF (gnB B) n
  | 0 => rfl
  | n + 1 => by unfold rmF stF; rw [rmF_st B n]; rfl
theorem bt_rc (g : Nat → Int32) (x : Int32) (i : Nat) : ∀ n, n ≤ 32 → bt (rcF g x n) i = (bt x i || (decide (i < n) && !decide (g i &&& x = 0)))
  | 0, _ => by show bt x i = _; simp
  | n + 1, h => by
    unfold rcF
    have ih := bt_rc g x i n (by omega)
    by_cases hp : g n &&& x = 0
    · rw [if_pos hp, ih]
      by_cases e : i = n
      · subst e; simp [hp]
      · have : (i < n + 1) ↔ i < n := by omega
        simp [this]
    · rw [if_neg hp, b_or, ih, bt_ly (by omega)]
      by_cases e : i = n
      · subst e; simp [hp]
      · have : (i < n + 1) ↔ i < n := by omega
        simp [e, this]
theorem any_iff {p : Nat → Bool} : ∀ {n : Nat}, anyF p n = true ↔ ∃ k, k < n ∧ p k = true
  | 0 => ⟨fun h => absurd h (show ¬ (false = true) by decide), fun ⟨k, hk, _⟩ => absurd hk (Nat.not_lt_zero k)⟩
  | n + 1 => by
    unfold anyF
    rw [Bool.or_eq_true, any_iff]
    constructor
    · rintro (⟨k, hk, h⟩ | h)
      · exact ⟨k, by omega, h⟩
      · exact ⟨n, by omega, h⟩
    · rintro ⟨k, hk, h⟩
      by_cases e : k = n
      · subst e; exact Or.inr h
      · exact Or.inl ⟨k, by omega, h⟩
theorem any_cong {p q : Nat → Bool} : ∀ {n : Nat}, (∀ k, k < n → p k = q k) → anyF p n = anyF q n
  | 0, _ => rfl
  | n + 1, h => by unfold anyF; rw [any_cong fun k hk => h k (by omega), h n (by omega)]
theorem nI_ne {a b : Nat} (ha : a < 2 ^ 31) (hb : b < 2 ^ 31) : (nI a = nI b) ↔ a = b := by
  rw [fa_eq, nI_toInt ha, nI_toInt hb]; omega
theorem bt_sg (g : Nat → Int32) (x : Int32) {j : Nat} (hj : j < 32) : ∀ n, n ≤ 32 → (∀ k, k < n → ∃ t, t < 4 ∧ g k = nI t) → bt (sgF g x n) j = anyF (fun k => bt x k && decide (g k = nI j)) n
  | 0, _, _ => by show bt 0 j = _; rw [b_0]; rfl
  | n + 1, h, hg => by
    unfold sgF anyF
    have ih := bt_sg g x hj n (by omega) (fun k hk => hg k (by omega))
    obtain ⟨t, ht, hgt⟩ := hg n (by omega)
    rw [bt_hold x (by omega)]
    cases hb : bt x n with
    | true =>
      rw [if_pos rfl, b_or, ih, hgt, bt_ly (by omega), Bool.true_and]
      congr 1
      rw [decide_eq_decide]
      exact ⟨fun e => by rw [e], fun e => ((nI_ne (by omega) (by omega)).mp e).symm⟩
    | false => rw [if_neg (by decide), ih]; simp
/-- the greatest of a name in a set -/
theorem nw_gr (f : Nat → Int32) (name : Int32) {x y : Int32} : ∀ n, n ≤ 32 → (∀ k, k < n → bt x k = bt y k) → nwF f name x n = grF f name y n
  | 0, _, _ => rfl
  | n + 1, h, hxy => by
    unfold nwF grF
    rw [nw_gr f name n (by omega) (fun k hk => hxy k (by omega)), bt_hold x (by omega), hxy n (by omega)]
    simp only [bt_sh y (show n < 32 by omega)]
theorem cF_mv (f : Nat → Int32) (name : Int32) : ∀ n, 1 + cF f name n = mvF f name n
  | 0 => rfl
  | n + 1 => by
    unfold cF mvF
    rw [← cF_mv f name n]
    split
    · rw [Int32.add_assoc]
    · rfl
theorem cF_upd (f : Nat → Int32) (name y : Int32) {m : Nat} : ∀ n, n ≤ m → cF (upd f m y) name n = cF f name n
  | 0, _ => rfl
  | n + 1, h => by
    unfold cF
    rw [cF_upd f name y n (by omega), show upd f m y n = f n from pk_un (by omega)]
theorem wt_mu (g : Nat → Int32) (x : Int32) : ∀ n, n ≤ 32 → wtF g x n = muF g x n
  | 0, _ => rfl
  | n + 1, h => by
    unfold wtF muF
    rw [wt_mu g x n (by omega), bt_hold x (by omega)]
    simp only [bt_sh x (show n < 32 by omega)]
