/-! The relation between the class's state and the model's, and what it gives. -/
def b01 (x : Bool) : Int32 := if x = true then 1 else 0
def RK (nk : Nat) (A : Nat → Nat → Int32) (S : Nat → Int32) (B : Nat → Nat → Int32) (T : Nat → Int32) : Prop :=
  nk ≤ 8 ∧ S 3 = nI nk ∧ T 0 = nI nk ∧ A 2 = B 2 ∧ A 3 = B 3 ∧ A 4 = B 4 ∧ (∀ j, j < 8 → B 5 j = b01 (bt (S 2) j)) ∧ ∀ j, j < nk → ∃ t, t < 4 ∧ A 2 j = nI t
def RD (S T : Nat → Int32) : Prop := S 0 = T 3 ∧ S 1 = T 4 ∧ (∃ x, x ≤ 99 ∧ S 0 = nI x) ∧ ∃ d, d ≤ 999 ∧ S 1 = nI d
def RB (nk nb : Nat) (A : Nat → Nat → Int32) (S : Nat → Int32) (B : Nat → Nat → Int32) (T : Nat → Int32) : Prop :=
  (nb ≤ 24 ∧ S 5 = nI nb ∧ T 1 = nI nb) ∧ (A 5 = B 6 ∧ A 6 = B 7 ∧ A 7 = B 8 ∧ A 8 = B 9 ∧ A 9 = B 10 ∧ A 11 = B 12 ∧ A 12 = B 13) ∧
  ((∀ j, j < 24 → B 11 j = b01 (bt (S 4) j)) ∧ bd nb (S 4)) ∧ (∀ b, b < nb → ∃ t, t < 5 ∧ A 5 b = nI t) ∧ (∀ b, b < nb → bd b (A 7 b)) ∧ (∀ b, b < 24 → bd nk (A 9 b)) ∧ (∀ b, b < 24 → ∃ t, t ≤ 99 ∧ A 11 b = nI t) ∧
  ∀ b, nb ≤ b → b < 24 → A 9 b = 0 ∧ A 10 b = 0
def RW (A B : Nat → Nat → Int32) : Prop := A 0 = B 0 ∧ A 1 = B 1 ∧ wOK (A 0)
def RV (nk nb : Nat) (A : Nat → Nat → Int32) (S : Nat → Int32) : Prop := ∀ b, b < nb → A 10 b = sgF (A 2) (A 9 b &&& liveF A S (S 1) nk) nk
def RM (nm : Nat) (A : Nat → Nat → Int32) (S : Nat → Int32) (B : Nat → Nat → Int32) (T : Nat → Int32) : Prop :=
  nm ≤ 3 ∧ S 6 = nI nm ∧ T 2 = nI nm ∧ (∀ i, i < nm → A 13 i = B 16 i ∧ A 14 i = (B 14 i &&& (B 15 i ^^^ (-1)))) ∧ (∀ i, i < 3 → B 16 i = -1 ∨ ∃ t, t ≤ 999 ∧ B 16 i = nI t) ∧ ∀ i, nm ≤ i → i < 3 → B 16 i = -1 ∧ B 14 i = 0
def RR (nk nb nm : Nat) (A : Nat → Nat → Int32) (S : Nat → Int32) (B : Nat → Nat → Int32) (T : Nat → Int32) : Prop :=
  RK nk A S B T ∧ RD S T ∧ RB nk nb A S B T ∧ RW A B ∧ RV nk nb A S ∧ RM nm A S B T
section REL
variable {nk nb nm : Nat} {A B : Nat → Nat → Int32} {S T : Nat → Int32}
theorem b01_0 (x : Bool) : decide (b01 x = 0) = !x := by cases x <;> rfl
theorem bd_mono {m n : Nat} {x : Int32} (h : bd m x) (hmn : m ≤ n) : bd n x := fun i hi => h i (Nat.le_trans hmn hi)
theorem live_eq (K : RK nk A S B T) (hd : S 1 = T 4) {j : Nat} (hj : j < 8) : liveB A S j (S 1) = liveM B T j := by
  obtain ⟨-, -, -, -, h3, h4, hl, -⟩ := K
  unfold liveB liveM inB
  rw [bt_hold _ (by omega), hl j hj, b01_0, h3, h4, hd]
  cases bt (S 2) j <;> simp
theorem live_bt (K : RK nk A S B T) (hd : S 1 = T 4) {k : Nat} (hk : k < nk) : bt (liveF A S (S 1) nk) k = liveM B T k := by
  have hn := K.1
  rw [liveF_st, bt_st _ _ _ (by omega), decide_eq_true hk, Bool.true_and]
  exact live_eq K hd (by omega)
theorem back_eq (K : RK nk A S B T) (R : RB nk nb A S B T) {b : Nat} (hb : b < nb) {X : Int32} {lo : Int32} (hX : ∀ k, k < nk → bt X k = (liveM B T k && !decide (nI k = lo))) {j : Nat} (hj : j < 4) : bt (sgF (A 2) (A 9 b &&& X) nk) j = anyF (bkP B T (nI j) b lo) nk := by
  obtain ⟨hn, -, -, h2, -, -, -, hs⟩ := K
  obtain ⟨-, ⟨-, -, -, -, h9, -⟩, -⟩ := R
  rw [bt_sg _ _ (by omega) nk (by omega) hs]
  refine any_cong fun k hk => ?_
  unfold bkP
  rw [b_and, hX k hk, h2, h9, bt_shd _ (by omega)]
  cases bt (B 10 b) k <;> cases liveM B T k <;> cases decide (nI k = lo) <;> cases decide (B 2 k = nI j) <;> rfl
theorem score_eq (hw : A 0 = B 0) {v : Int32} {b : Nat} {lo : Int32} (hv : ∀ j, j < 4 → bt v j = anyF (bkP B T (nI j) b lo) nk) : ∀ n, n ≤ 4 → scF (A 0) v n = smF B T b lo nk n
  | 0, _ => rfl
  | n + 1, h => by
    unfold scF smF
    rw [score_eq hw hv n (by omega), bt_hold _ (by omega), hv n (by omega), hw]
theorem suf_eq (W : RW A B) (h5 : A 5 = B 6) {v : Int32} {b : Nat} {lo : Int32} (hv : ∀ j, j < 4 → bt v j = anyF (bkP B T (nI j) b lo) nk) : sufB A v b = enB B T b lo nk := by
  unfold sufB enB
  rw [score_eq W.1 hv 4 (Nat.le_refl _), W.2.1, h5]
theorem no_lo {k : Nat} (hk : k < 8) : decide (nI k = -1) = false := (by decide +kernel : ∀ k : Fin 8, decide (nI k.val = -1) = false) ⟨k, hk⟩
theorem v_eq (K : RK nk A S B T) (D : RD S T) (R : RB nk nb A S B T) (V : RV nk nb A S) {b : Nat} (hb : b < nb) {j : Nat} (hj : j < 4) : bt (A 10 b) j = anyF (bkP B T (nI j) b (-1)) nk := by
  rw [V b hb]
  refine back_eq K R hb (fun k hk => ?_) hj
  have hn := K.1
  rw [live_bt K D.2.1 hk, no_lo (by omega)]
  cases liveM B T k <;> rfl
theorem tr_eq (K : RK nk A S B T) (D : RD S T) (R : RB nk nb A S B T) (W : RW A B) (V : RV nk nb A S) {b : Nat} (hb : b < nb) : sufB A (A 10 b) b = enB B T b (-1) nk := suf_eq W R.2.1.1 (fun _ hj => v_eq K D R V hb hj)
theorem tb_eq (K : RK nk A S B T) (D : RD S T) (R : RB nk nb A S B T) (W : RW A B) (V : RV nk nb A S) : tbF A nb = twF B T (-1) nk nb := by
  rw [tbF_st, twF_st]
  exact st_cong fun k hk => tr_eq K D R W V hk
theorem rc_eq (R : RB nk nb A S B T) : rcF (A 7) (S 4) nb = rmF B nb := by
  obtain ⟨⟨hn, -, -⟩, ⟨-, -, h7, -⟩, ⟨hm, hbd⟩, -, hsrc, -⟩ := R
  rw [rmF_st]
  refine b_ext fun i hi => ?_
  rw [bt_rc _ _ _ _ (by omega), bt_st _ _ _ (by omega)]
  by_cases h : i < nb
  · rw [decide_eq_true h, Bool.true_and, Bool.true_and]
    unfold gnB
    rw [hm i (by omega), b01_0, Bool.not_not]
    congr 1
    rw [Bool.eq_iff_iff, any_iff]
    constructor
    · intro h0
      rw [Bool.not_eq_true', decide_eq_false_iff_not, and0] at h0
      refine Classical.byContradiction fun hx => h0 fun b hb => ?_
      cases hc : (bt (A 7 i) b && bt (S 4) b) with
      | false => rfl
      | true =>
        rw [Bool.and_eq_true] at hc
        have hbi : b < i := by
          rcases Nat.lt_or_ge b i with h1 | h1
          · exact h1
          · rw [hsrc i h b h1] at hc; exact absurd hc.1 (by decide)
        refine absurd ⟨b, hbi, ?_⟩ hx
        unfold gnP
        rw [hm b (by omega), b01_0, Bool.not_not, hc.2, bt_shd _ (by omega), ← h7, hc.1]; rfl
    · rintro ⟨b, hb, hp⟩
      unfold gnP at hp
      rw [hm b (by omega), b01_0, Bool.not_not, bt_shd _ (by omega), ← h7, Bool.and_eq_true] at hp
      rw [Bool.not_eq_true', decide_eq_false_iff_not, and0]
      intro h0
      have h1 := h0 b (by omega)
      rw [hp.1, hp.2] at h1
      exact absurd h1 (by decide)
  · rw [decide_eq_false h, hbd i (by omega)]; rfl
theorem rm_bd (B : Nat → Nat → Int32) (h : nb ≤ 24) : bd 24 (rmF B nb) := by rw [rmF_st]; exact bd_mono (st_bd _ (by omega)) h
theorem tw_bd (B : Nat → Nat → Int32) (T : Nat → Int32) (lo : Int32) (h : nb ≤ 24) : bd 24 (twF B T lo nk nb) := by rw [twF_st]; exact bd_mono (st_bd _ (by omega)) h
theorem bd_and {n : Nat} {x : Int32} (y : Int32) (h : bd n x) : bd n (x &&& y) := fun i hi => by rw [b_and, h i hi]; rfl
theorem bd_or {n : Nat} {x y : Int32} (h : bd n x) (h2 : bd n y) : bd n (x ||| y) := fun i hi => by rw [b_or, h i hi, h2 i hi]; rfl
theorem bd_ly {j n : Nat} (hj : j < 32) (h : j < n) : bd n (ly (nI j)) := fun i hi => by rw [bt_ly hj]; exact decide_eq_false (by omega)
end REL
