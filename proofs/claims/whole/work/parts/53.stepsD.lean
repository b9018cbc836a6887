/-! Step: build. -/
theorem bd_m {x : Int32} {n : Nat} (h : bd n x) : ∃ m, m < 2 ^ n ∧ x = nI m := by
  obtain ⟨m, hm, rfl⟩ := wb_of32 x
  refine ⟨m, Nat.lt_pow_two_of_testBit m (fun i hi => ?_), rfl⟩
  rcases Nat.lt_or_ge i 32 with h32 | h32
  · rw [← bt_n h32]; exact h i hi
  · exact Nat.testBit_lt_two_pow (Nat.lt_of_lt_of_le hm (Nat.pow_le_pow_right (by decide) h32))
theorem ly_all {n : Nat} (hn : n ≤ 24) : ly (nI n) - 1 = nI (2 ^ n - 1) := (by decide +kernel : ∀ n : Fin 25, ly (nI n.val) - 1 = nI (2 ^ n.val - 1)) ⟨n, by omega⟩
theorem all_in {x : Int32} {n : Nat} (hn : n ≤ 24) : (x &&& ((ly (nI n) - 1) ^^^ (-1)) = 0) ↔ bd n x := by
  rw [and0]
  constructor
  · intro h i hi
    rcases Nat.lt_or_ge i 32 with h32 | h32
    · have h1 := h i h32
      rw [bt_not _ h32, bt_pred (by omega) h32, decide_eq_false (by omega)] at h1
      rw [Bool.not_false, Bool.and_true] at h1
      exact h1
    · exact b_big h32
  · intro h i hi
    rw [bt_not _ hi, bt_pred (by omega) hi]
    by_cases e : i < n
    · rw [decide_eq_true e]; exact Bool.and_false _
    · rw [h i (by omega)]; rfl
theorem in_all {x : Int32} {n : Nat} (hn : n ≤ 24) : inB x 0 (ly (nI n) - 1) = true ↔ bd n x := by
  have hp : 2 ^ n ≤ 2 ^ 24 := Nat.pow_le_pow_right (by decide) hn
  have hq : 0 < 2 ^ n := Nat.two_pow_pos n
  rw [inB_t, ly_all hn]
  constructor
  · rintro ⟨h1, h2⟩
    obtain ⟨m, -, hm, rfl⟩ := rngI (a := 0) (b := 2 ^ n - 1) (by omega) h1 h2 (by omega)
    intro i hi
    rcases Nat.lt_or_ge i 32 with h32 | h32
    · rw [bt_n h32]
      exact Nat.testBit_lt_two_pow (Nat.lt_of_lt_of_le (show m < 2 ^ n by omega) (Nat.pow_le_pow_right (by decide) hi))
    · exact b_big h32
  · intro h
    obtain ⟨m, hm, rfl⟩ := bd_m h
    exact ⟨nI_nlt (a := m) (b := 0) (by omega) (by omega), nI_le (by omega) (by omega)⟩
theorem wt_bd {g : Nat → Int32} {x : Int32} {m : Nat} (hx : bd m x) : ∀ n, n ≤ 32 → (∀ k, k < n → bd m (g k)) → bd m (wtF g x n)
  | 0, _, _ => hx
  | n + 1, h, hg => by
    unfold wtF
    have ih := wt_bd hx n (by omega) (fun k hk => hg k (by omega))
    split
    · exact bd_or ih (hg n (by omega))
    · exact ih
theorem sg_zero (g : Nat → Int32) : ∀ n, n ≤ 32 → sgF g 0 n = 0
  | 0, _ => rfl
  | n + 1, h => by
    unfold sgF
    rw [bt_hold _ (by omega), b_0, ft_if]
    exact sg_zero g n (by omega)
section STEPSD
variable {nk nb nm : Nat} {A B : Nat → Nat → Int32} {S T : Nat → Int32}
theorem ar_eq (R : RB nk nb A S B T) (x : Int32) : anyF (arP B x) nb = true ↔ ¬ x &&& rcF (A 7) (S 4) nb = 0 := by
  have hn := R.1.1
  rw [rc_eq R, any_iff, and0]
  constructor
  · rintro ⟨b, hb, hp⟩ hz
    unfold arP at hp
    rw [bt_shd _ (by omega), Bool.and_eq_true] at hp
    have h1 := hz b (by omega)
    rw [hp.1, rmF_st, bt_st _ _ _ (by omega), decide_eq_true hb, hp.2] at h1
    exact absurd h1 (by decide)
  · intro hz
    refine Classical.byContradiction fun hx => hz fun i hi => ?_
    cases h1 : bt x i with
    | false => rfl
    | true =>
      rw [rmF_st, bt_st _ _ _ (by omega), Bool.true_and]
      by_cases e : i < nb
      · cases h2 : gnB B i with
        | false => exact Bool.and_false _
        | true => exact absurd ⟨i, e, by unfold arP; rw [bt_shd _ (by omega), h1, h2]; rfl⟩ hx
      · rw [decide_eq_false e]; rfl
theorem s_build (h : RR nk nb nm A S B T) (name inputs res : Int32) : stp [xIAE, xUOE, xISE] (exBuild A S name inputs nb) (mcBuild B T name inputs nb) (S 5 = T 1 ∧ nb < 24 ∧ RR nk (nb + 1) nm (uA (uA (uA (uA A 5 (upd (A 5) nb name)) 6 (upd (A 6) nb (1 + cF (upd (A 5) nb name) name nb))) 7 (upd (A 7) nb (wtF (A 7) inputs nb))) 8 (upd (A 8) nb res)) (uS S 5 (S 5 + 1)) (uA (mbA B nb name (mvF (B 6) name nb) (muF (B 8) inputs nb)) 9 (upd (B 9) nb res)) (uS (uS T 5 0) 1 (T 1 + 1))) := by
  obtain ⟨K, D, R, W, V, M⟩ := h
  have R0 := R
  have hm := K.1
  obtain ⟨⟨hn, k2, k3⟩, ⟨a5, a6, a7, a8, a9, a11, a12⟩, r3, r4, r5, r6, r7, r8⟩ := R
  have cf : (S 5 < 24) ↔ ¬ T 1 = 24 := by rw [k2, k3]; exact full_lt hn (by decide)
  have c1 : (inputs &&& ((ly (S 5) - 1) ^^^ (-1)) = 0) ↔ bd nb inputs := by rw [k2]; exact all_in hn
  have c2 : inB inputs 0 (((1 : Int32) <<< (T 1 &&& 31)) - 1) = true ↔ bd nb inputs := by rw [k3]; exact in_all hn
  have c3 := ar_eq R0 inputs
  unfold exBuild mcBuild
  by_cases h1 : inR name 5 = true
  · rw [if_pos h1, no_t h1, ft_if]
    obtain ⟨hnm, enm⟩ := inR_c (by decide) h1
    by_cases h2 : bd nb inputs
    · rw [if_pos (c1.mpr h2), if_pos (c2.mpr h2)]
      by_cases h3 : inputs &&& rcF (A 7) (S 4) nb = 0
      · rw [if_pos h3, if_neg (fun z => (c3.mp z) h3)]
        by_cases h5 : T 1 = 24
        · rw [if_pos h5, if_neg (fun z => cf.mp z h5)]; exact stp_no xISE rfl rfl (show ¬ (3 : Int32) = 0 by decide)
        · rw [if_neg h5, if_pos (cf.mpr h5)]
          have hlt : nb < 24 := by
            rcases Nat.lt_or_ge nb 24 with z | z
            · exact z
            · exact absurd (by rw [k3, show nb = 24 by omega]; rfl) h5
          refine Or.inl ⟨rfl, rfl, k2.trans k3.symm, hlt, K, D, ⟨⟨by omega, ?_, ?_⟩, ⟨?_, ?_, ?_, ?_, a9, a11, a12⟩, ⟨r3.1, bd_mono r3.2 (by omega)⟩, fun b hb => ?_, fun b hb => ?_, r6, r7, fun b h6 h7 => r8 b (by omega) h7⟩, W, fun b hb => ?_, M⟩
          · show S 5 + 1 = _; rw [k2]; exact nI_1 nb
          · show T 1 + 1 = _; rw [k3]; exact nI_1 nb
          · show upd (A 5) _ _ = upd (B 6) _ _; rw [a5]
          · show upd (A 6) nb (1 + cF (upd (A 5) nb name) name nb) = upd (B 7) nb (mvF (B 6) name nb)
            rw [cF_upd _ _ _ nb (Nat.le_refl _), cF_mv, a6, a5]
          · show upd (A 7) nb (wtF (A 7) inputs nb) = upd (B 8) nb (muF (B 8) inputs nb)
            rw [wt_mu _ _ nb (by omega), a7]
          · show upd (A 8) _ _ = upd (B 9) _ _; rw [a8]
          · show ∃ t, t < 5 ∧ upd (A 5) nb name b = nI t
            by_cases e : b = nb
            · rw [e, pk_us]; exact ⟨ix name, hnm, enm⟩
            · rw [pk_un e]; exact r4 b (by omega)
          · show bd b (upd (A 7) nb _ b)
            by_cases e : b = nb
            · rw [e, pk_us]; exact wt_bd h2 nb (by omega) (fun k hk => bd_mono (r5 k hk) (by omega))
            · rw [pk_un e]; exact r5 b (by omega)
          · show A 10 b = sgF (A 2) (A 9 b &&& liveF (uA (uA (uA (uA A 5 (upd (A 5) nb name)) 6 (upd (A 6) nb (1 + cF (upd (A 5) nb name) name nb))) 7 (upd (A 7) nb (wtF (A 7) inputs nb))) 8 (upd (A 8) nb res)) (uS S 5 (S 5 + 1)) (S 1) nk) nk
            rw [liveF_c (A := A) (S := S) (A' := uA (uA (uA (uA A 5 (upd (A 5) nb name)) 6 (upd (A 6) nb (1 + cF (upd (A 5) nb name) name nb))) 7 (upd (A 7) nb (wtF (A 7) inputs nb))) 8 (upd (A 8) nb res)) (S' := uS S 5 (S 5 + 1)) rfl rfl rfl]
            by_cases e : b = nb
            · obtain ⟨e1, e2⟩ := r8 nb (Nat.le_refl _) hlt
              rw [e, e2, e1, show ((0 : Int32) &&& liveF A S (S 1) nk) = 0 from b_ext fun i _ => by rw [b_and, b_0]; rfl]
              exact (sg_zero _ _ (by omega)).symm
            · exact V b (by omega)
      · rw [if_neg h3, if_pos (c3.mpr h3)]; exact stp_no xUOE rfl rfl (show ¬ (2 : Int32) = 0 by decide)
    · rw [if_neg (fun z => h2 (c1.mp z)), if_neg (fun z => h2 (c2.mp z))]; exact stp_no xIAE rfl rfl (show ¬ (1 : Int32) = 0 by decide)
  · rw [if_neg h1, no_f h1, tt_if]; exact stp_no xIAE rfl rfl (show ¬ (1 : Int32) = 0 by decide)
end STEPSD
