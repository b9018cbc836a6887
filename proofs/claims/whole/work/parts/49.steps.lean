/-! One step each: the class's method and the model's, side by side. -/
theorem sg_cong {g g' : Nat → Int32} {x x' : Int32} : ∀ {n : Nat}, n ≤ 32 → (∀ k, k < n → g k = g' k) → (∀ k, k < n → bt x k = bt x' k) → sgF g x n = sgF g' x' n
  | 0, _, _, _ => rfl
  | n + 1, h, hg, hx => by
    unfold sgF
    rw [sg_cong (by omega) (fun k hk => hg k (by omega)) (fun k hk => hx k (by omega)), bt_hold x (by omega), bt_hold x' (by omega), hx n (by omega), hg n (by omega)]
theorem sg_add {g g' : Nat → Int32} {x x' : Int32} {n : Nat} (h : n < 32) (hg : ∀ k, k < n → g k = g' k) (hx : ∀ k, k < n → bt x k = bt x' k) (hn : bt x' n = false) : sgF g x n = sgF g' x' (n + 1) := by
  rw [sg_cong (by omega) hg hx]
  show _ = (if hold x' (nI n) = true then _ else _)
  rw [bt_hold x' h, hn, if_neg (by decide)]
theorem full_lt {n m : Nat} (h : n ≤ m) (hm : m < 2 ^ 31) : (nI n < nI m) ↔ ¬ nI n = nI m := by
  rw [nI_ne (by omega) hm, fa_lt, nI_toInt (by omega), nI_toInt hm]
  omega
/-- outcomes: both answer, or both refuse with the same number -/
def stp (L : List String) (ex : Option String) (mc : Int32) (good : Prop) : Prop := (ex = none ∧ mc = 0 ∧ good) ∨ ∃ E, ex = some E ∧ cd L (some E) = mc ∧ ¬ mc = 0
theorem stp_no {L : List String} {ex : Option String} {mc : Int32} {good : Prop} (E : String) (h : ex = some E) (h2 : cd L (some E) = mc) (h3 : ¬ mc = 0) : stp L ex mc good := Or.inr ⟨E, h, h2, h3⟩
section STEPS
variable {nk nb nm : Nat} {A B : Nat → Nat → Int32} {S T : Nat → Int32}
theorem RR_5 (h : RR nk nb nm A S B T) (y : Int32) : RR nk nb nm A S B (uS T 5 y) := h
theorem RR_0 : RR 0 0 0 iA iS jA jS := by
  refine ⟨⟨by decide, rfl, rfl, rfl, rfl, rfl, fun j hj => ?_, fun j hj => absurd hj (Nat.not_lt_zero _)⟩, ⟨rfl, rfl, ⟨7, by decide, rfl⟩, ⟨0, by decide, rfl⟩⟩, ⟨⟨by decide, rfl, rfl⟩, ⟨rfl, rfl, rfl, rfl, rfl, rfl, rfl⟩, ⟨fun j hj => ?_, fun i _ => b_0 i⟩, fun b hb => absurd hb (Nat.not_lt_zero _), fun b hb => absurd hb (Nat.not_lt_zero _), fun b hb i _ => b_0 i, fun b hb => ⟨0, by decide, rfl⟩, fun b _ _ => ⟨rfl, rfl⟩⟩, ⟨rfl, rfl, fun j hj => ⟨50, by decide, ?_⟩⟩, fun b hb => absurd hb (Nat.not_lt_zero _), ⟨by decide, rfl, rfl, fun i hi => absurd hi (Nat.not_lt_zero _), fun i hi => Or.inl ?_, fun i _ hi => ⟨?_, rfl⟩⟩⟩
  · show (0 : Int32) = b01 (bt 0 j); rw [b_0]; rfl
  · show (0 : Int32) = b01 (bt 0 j); rw [b_0]; rfl
  · show flF 50 4 j = _; rw [flF_at, if_pos hj]; rfl
  · show flF (-1) 3 i = _; rw [flF_at, if_pos hi]
  · show flF (-1) 3 i = _; rw [flF_at, if_pos hi]
theorem s_addKey (h : RR nk nb nm A S B T) (signer first last : Int32) : stp [xIAE, xISE] (exAddKey S signer first last) (mcAddKey T signer first last) (S 3 = T 0 ∧ nk < 8 ∧ RR (nk + 1) nb nm (uA (uA (uA A 2 (upd (A 2) nk signer)) 3 (upd (A 3) nk first)) 4 (upd (A 4) nk last)) (uS S 3 (S 3 + 1)) (uA (uA (uA B 2 (upd (B 2) nk signer)) 3 (upd (B 3) nk first)) 4 (upd (B 4) nk last)) (uS (uS T 5 0) 0 (T 0 + 1))) := by
  obtain ⟨⟨k1, k2, k3, k4, k5, k6, k7, k8⟩, D, R, W, V, M⟩ := h
  have cf : (S 3 < 8) ↔ ¬ T 0 = 8 := by rw [k2, k3]; exact full_lt k1 (by decide)
  unfold exAddKey mcAddKey
  rw [← D.2.1]
  by_cases h1 : inR signer 4 = true
  · rw [if_pos h1, if_pos h1]
    by_cases h2 : first < S 1
    · rw [if_pos h2, if_pos h2]; exact stp_no xIAE rfl rfl (by decide)
    · rw [if_neg h2, if_neg h2]
      by_cases h3 : last < first
      · rw [if_pos h3, if_pos h3]; exact stp_no xIAE rfl rfl (by decide)
      · rw [if_neg h3, if_neg h3]
        by_cases h4 : last ≤ 999
        · rw [if_pos h4, if_pos h4]
          by_cases h5 : T 0 = 8
          · rw [if_pos h5, if_neg (fun z => cf.mp z h5)]; exact stp_no xISE rfl rfl (by decide)
          · rw [if_neg h5, if_pos (cf.mpr h5)]
            have hlt : nk < 8 := by
              rcases Nat.lt_or_ge nk 8 with z | z
              · exact z
              · exact absurd (by rw [k3, show nk = 8 by omega]; rfl) h5
            refine Or.inl ⟨rfl, rfl, k2.trans k3.symm, hlt, ⟨by omega, ?_, ?_, ?_, ?_, ?_, k7, fun j hj => ?_⟩, D, ⟨R.1, R.2.1, R.2.2.1, R.2.2.2.1, R.2.2.2.2.1, fun b hb => bd_mono (R.2.2.2.2.2.1 b hb) (by omega), R.2.2.2.2.2.2.1, R.2.2.2.2.2.2.2⟩, W, fun b hb => ?_, M⟩
            · show S 3 + 1 = _; rw [k2]; exact nI_1 nk
            · show T 0 + 1 = _; rw [k3]; exact nI_1 nk
            · show upd (A 2) nk signer = upd (B 2) nk signer; rw [k4]
            · show upd (A 3) nk first = upd (B 3) nk first; rw [k5]
            · show upd (A 4) nk last = upd (B 4) nk last; rw [k6]
            · show ∃ t, t < 4 ∧ upd (A 2) nk signer j = nI t
              by_cases e : j = nk
              · subst e; rw [pk_us]; exact ⟨ix signer, (inR_c (by decide) h1).1, (inR_c (by decide) h1).2⟩
              · rw [pk_un e]; exact k8 j (by omega)
            · show A 10 b = sgF (upd (A 2) nk signer) (A 9 b &&& liveF (uA (uA (uA A 2 (upd (A 2) nk signer)) 3 (upd (A 3) nk first)) 4 (upd (A 4) nk last)) (uS S 3 (S 3 + 1)) (S 1) (nk + 1)) (nk + 1)
              have hR := R.1.1
              rw [V b hb]
              refine sg_add (by omega) (fun k hk => (pk_un (by omega)).symm) (fun k hk => ?_) ?_
              · rw [b_and, b_and]
                congr 1
                rw [liveF_st, liveF_st, bt_st _ _ _ (by omega), bt_st _ _ _ (by omega), decide_eq_true hk, decide_eq_true (show k < nk + 1 by omega)]
                congr 1
                unfold liveB
                rw [show (uA (uA (uA A 2 (upd (A 2) nk signer)) 3 (upd (A 3) nk first)) 4 (upd (A 4) nk last)) 3 k = A 3 k from pk_un (by omega), show (uA (uA (uA A 2 (upd (A 2) nk signer)) 3 (upd (A 3) nk first)) 4 (upd (A 4) nk last)) 4 k = A 4 k from pk_un (by omega)]
                rfl
              · rw [b_and, R.2.2.2.2.2.1 b (by omega) nk (Nat.le_refl _)]; rfl
        · rw [if_neg h4, if_neg h4]; exact stp_no xIAE rfl rfl (by decide)
  · rw [if_neg h1, if_neg h1]; exact stp_no xIAE rfl rfl (by decide)
end STEPS
