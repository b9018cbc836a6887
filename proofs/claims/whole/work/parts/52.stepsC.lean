/-! Steps: extendKey, hangsOnKey, recall, lift, rebuild, share, pass, build. -/
theorem ct_more {p : Nat → Bool} {n m : Nat} (h : n ≤ m) (hz : ∀ k, n ≤ k → k < m → p k = false) : fb_ct p m = fb_ct p n := by
  obtain ⟨r, rfl⟩ : ∃ r, m = n + r := ⟨m - n, by omega⟩
  rw [fb_ct_split, fb_ct_zero.mpr (fun k hk => hz (n + k) (by omega) (by omega)), Nat.add_zero]
theorem hg_ct (A : Nat → Nat → Int32) (x : Int32) (nk : Nat) : ∀ n, hgF A x nk n = nI (fb_ct (fun k => sufB A (A 10 k) k && !sufB A (sgF (A 2) (A 9 k &&& x) nk) k) n)
  | 0 => rfl
  | n + 1 => by
    unfold hgF
    rw [hg_ct A x nk n, fb_ct_succ]
    cases sufB A (A 10 n) n with
    | false => rw [ft_if]; rfl
    | true =>
      rw [tt_if]
      cases sufB A (sgF (A 2) (A 9 n &&& x) nk) n with
      | false => rw [ft_if]; exact iadd _ 1
      | true => rw [tt_if]; rfl
theorem rc_mono {g : Nat → Int32} {x y : Int32} {n i : Nat} (h : n ≤ 32) (hxy : ∀ k, bt x k = true → bt y k = true) (hb : bt (rcF g x n) i = true) : bt (rcF g y n) i = true := by
  rw [bt_rc _ _ _ _ h, Bool.or_eq_true, Bool.and_eq_true] at hb
  rw [bt_rc _ _ _ _ h, Bool.or_eq_true, Bool.and_eq_true]
  rcases hb with hb | ⟨h1, h2⟩
  · exact Or.inl (hxy i hb)
  · refine Or.inr ⟨h1, ?_⟩
    rw [Bool.not_eq_true', decide_eq_false_iff_not, and0] at h2 ⊢
    refine fun z => h2 fun k hk => ?_
    have h3 := z k hk
    cases h4 : bt x k with
    | false => rw [Bool.and_false]
    | true => rw [hxy k h4, Bool.and_true] at h3; rw [h3]; rfl
theorem xor_an {x y : Int32} (h : ∀ i, bt x i = true → bt y i = true) : y &&& (x ^^^ (-1)) = x ^^^ y := b_ext fun i hi => by
  rw [b_and, bt_not x hi, b_xor]
  cases h1 : bt x i with
  | true => rw [h i h1]; rfl
  | false => cases bt y i <;> rfl
theorem xor_an2 {x y : Int32} (h : ∀ i, bt y i = true → bt x i = true) : x &&& (y ^^^ (-1)) = x ^^^ y := b_ext fun i hi => by
  rw [b_and, bt_not y hi, b_xor]
  cases h1 : bt y i with
  | true => rw [h i h1]; rfl
  | false => cases bt x i <;> rfl
section STEPSC
variable {nk nb nm : Nat} {A B : Nat → Nat → Int32} {S T : Nat → Int32}
theorem s_extendKey (h : RR nk nb nm A S B T) (key last : Int32) : stp [xIOB, xIAE, xISE] (exExtendKey A S key last nk) (mcExtendKey B T key last nk) (A 4 (ix key) = B 4 (ix key) ∧ RR nk nb nm (uA A 4 (upd (A 4) (ix key) last)) S (uA B 4 (upd (B 4) (ix key) last)) T) := by
  obtain ⟨⟨k1, k2, k3, k4, k5, k6, k7, k8⟩, D, R, W, V, M⟩ := h
  unfold exExtendKey mcExtendKey
  by_cases h1 : inR key nk = true
  · rw [if_pos h1, no_t h1, ft_if]
    obtain ⟨hk, ek⟩ := inR_c (by omega) h1
    have e1 : (B 5 (ix key) = 0) ↔ ¬ hold (S 2) key = true := by
      rw [show hold (S 2) key = hold (S 2) (nI (ix key)) from by rw [← ek], bt_hold _ (by omega), k7 _ (by omega)]
      cases bt (S 2) (ix key) <;> decide
    by_cases h2 : last ≤ A 4 (ix key)
    · rw [if_pos h2, if_pos (show last ≤ B 4 (ix key) from by rw [← k6]; exact h2)]; exact stp_no xIAE rfl rfl (show ¬ (2 : Int32) = 0 by decide)
    · rw [if_neg h2, if_neg (show ¬ last ≤ B 4 (ix key) from by rw [← k6]; exact h2)]
      by_cases h3 : last ≤ 999
      · rw [if_pos h3, if_pos h3]
        by_cases h4 : hold (S 2) key = true
        · rw [if_pos h4, if_neg (fun z => e1.mp z h4)]; exact stp_no xISE rfl rfl (show ¬ (3 : Int32) = 0 by decide)
        · rw [if_neg h4, if_pos (e1.mpr h4), ← D.2.1, ← k6]
          by_cases h5 : S 1 ≤ A 4 (ix key)
          · rw [if_pos h5, if_pos h5]
            refine Or.inl ⟨rfl, rfl, rfl, ⟨k1, k2, k3, k4, k5, ?_, k7, k8⟩, D, R, W, fun b hb => ?_, M⟩
            · show upd (A 4) _ _ = upd (A 4) _ _; rfl
            · show A 10 b = sgF (A 2) (A 9 b &&& liveF (uA A 4 (upd (A 4) (ix key) last)) S (S 1) nk) nk
              rw [V b hb]
              have hl : liveF (uA A 4 (upd (A 4) (ix key) last)) S (S 1) nk = liveF A S (S 1) nk := by
                rw [liveF_st, liveF_st]
                refine st_cong fun k hk2 => ?_
                unfold liveB
                rw [show (uA A 4 (upd (A 4) (ix key) last)) 4 k = upd (A 4) (ix key) last k from rfl]
                by_cases e : k = ix key
                · rw [e, pk_us, decide_eq_false (show ¬ last < S 1 by rw [fa_lt]; rw [fa_le] at h2 h5; omega), decide_eq_false (show ¬ A 4 (ix key) < S 1 by rw [fa_lt]; rw [fa_le] at h5; omega)]; rfl
                · rw [pk_un e]; rfl
              rw [hl]
          · rw [if_neg h5, if_neg h5]; exact stp_no xISE rfl rfl (show ¬ (3 : Int32) = 0 by decide)
      · rw [if_neg h3, if_neg h3]; exact stp_no xIAE rfl rfl (show ¬ (2 : Int32) = 0 by decide)
  · rw [if_neg h1, no_f h1]; exact stp_no xIOB rfl rfl (show ¬ (1 : Int32) = 0 by decide)
theorem s_hangsOnKey (h : RR nk nb nm A S B T) (key : Int32) : stp [xIOB] (exR key nk xIOB) (mcR key nk) (hgF A (liveF A S (S 1) nk &&& (ly key ^^^ (-1))) nk nb = btF (twF B T (-1) nk nb &&& (twF B T key nk nb ^^^ (-1))) 24) := stp_R fun hk9 => by
  obtain ⟨K, D, R, W, V, M⟩ := h
  have hn := R.1.1
  have hm := K.1
  obtain ⟨hk, ek⟩ := inR_c (by omega) hk9
  rw [hg_ct, btF_ct _ 24 (by decide), ct_more (n := nb) (m := 24) hn (fun k h1 h2 => by rw [b_and, twF_st, bt_st _ _ _ (by omega), decide_eq_false (by omega)]; rfl)]
  refine congrArg nI (fb_ct_cong fun k hk2 => ?_)
  rw [b_and, bt_not _ (by omega), twF_st, twF_st, bt_st _ _ _ (by omega), bt_st _ _ _ (by omega), decide_eq_true hk2, Bool.true_and, Bool.true_and, tr_eq K D R W V hk2]
  congr 2
  refine suf_eq W R.2.1.1 (fun j hj => back_eq K R hk2 (fun i hi => ?_) hj)
  rw [b_and, live_bt K D.2.1 hi, bt_not _ (by omega), ek, bt_ly (by omega)]
  congr 2
  rw [decide_eq_decide, nI_ne (by omega) (by omega)]
theorem mk_rel (R : RB nk nb A S B T) {b : Nat} (hb : b < nb) {S' : Nat → Int32} {y : Bool} (h4 : ∀ k, bt (S' 4) k = if k = b then y else bt (S 4) k) (h5 : S' 5 = S 5) : RB nk nb A S' (uA B 11 (upd (B 11) b (b01 y))) T := by
  refine ⟨⟨R.1.1, h5.trans R.1.2.1, R.1.2.2⟩, R.2.1, ⟨fun j hj => ?_, fun i hi => ?_⟩, R.2.2.2⟩
  · show upd (B 11) b (b01 y) j = _
    rw [h4]
    by_cases e : j = b
    · rw [if_pos e, e, pk_us]
    · rw [if_neg e, pk_un e]; exact R.2.2.1.1 j hj
  · rw [h4, if_neg (by omega)]; exact R.2.2.1.2 i hi
theorem s_recall (h : RR nk nb nm A S B T) (b : Int32) : stp [xIOB, xISE] (exRecall S b nb) (mcMarks B b 1 nb) (bcF (rcF (A 7) (S 4 ||| ly b) nb &&& (rcF (A 7) (S 4) nb ^^^ (-1))) = btF (rmF B nb ^^^ rmF (mkA B b 1) nb) 24 ∧ RR nk nb nm A (uS S 4 (S 4 ||| ly b)) (mkA B b 1) T) := by
  obtain ⟨K, D, R, W, V, M⟩ := h
  have hn := R.1.1
  unfold exRecall mcMarks
  by_cases h1 : inR b nb = true
  · rw [if_pos h1, no_t h1, ft_if]
    obtain ⟨hb, eb⟩ := inR_c (by omega) h1
    have e1 : (B 11 (ix b) = 1) ↔ hold (S 4) b = true := by
      rw [show hold (S 4) b = hold (S 4) (nI (ix b)) from by rw [← eb], bt_hold _ (by omega), R.2.2.1.1 _ (by omega)]
      cases bt (S 4) (ix b) <;> decide
    by_cases h2 : hold (S 4) b = true
    · rw [if_pos h2, if_pos (e1.mpr h2)]; exact stp_no xISE rfl rfl (show ¬ (2 : Int32) = 0 by decide)
    · rw [if_neg h2, if_neg (fun z => h2 (e1.mp z))]
      have R' : RB nk nb A (uS S 4 (S 4 ||| ly b)) (mkA B b 1) T := mk_rel R hb (S' := uS S 4 (S 4 ||| ly b)) (y := true) (fun k => by
        show bt (S 4 ||| ly b) k = _
        rw [eb, b_or, bt_ly (by omega), ← eb]
        by_cases e : k = ix b
        · rw [if_pos e, decide_eq_true e, Bool.or_true]
        · rw [if_neg e, decide_eq_false e, Bool.or_false]) rfl
      have e2 : rcF (A 7) (S 4 ||| ly b) nb = rmF (mkA B b 1) nb := rc_eq R'
      refine Or.inl ⟨rfl, rfl, ?_, K, D, R', W, RV_same V rfl rfl rfl rfl rfl rfl rfl, M⟩
      have hs : ∀ i, bt (rmF B nb) i = true → bt (rmF (mkA B b 1) nb) i = true := fun i hi => by
        rw [← rc_eq R] at hi
        rw [← e2]
        exact rc_mono (by omega) (fun k hk => by rw [b_or, hk]; rfl) hi
      rw [e2, rc_eq R, bc_btF (bd_and _ (rm_bd _ hn)), xor_an hs]
  · rw [if_neg h1, no_f h1]; exact stp_no xIOB rfl rfl (show ¬ (1 : Int32) = 0 by decide)
theorem s_lift (h : RR nk nb nm A S B T) (b : Int32) : stp [xIOB, xISE] (exLift S b nb) (mcMarks B b 0 nb) (bcF (rcF (A 7) (S 4) nb &&& (rcF (A 7) (S 4 &&& (ly b ^^^ (-1))) nb ^^^ (-1))) = btF (rmF B nb ^^^ rmF (mkA B b 0) nb) 24 ∧ RR nk nb nm A (uS S 4 (S 4 &&& (ly b ^^^ (-1)))) (mkA B b 0) T) := by
  obtain ⟨K, D, R, W, V, M⟩ := h
  have hn := R.1.1
  unfold exLift mcMarks
  by_cases h1 : inR b nb = true
  · rw [if_pos h1, no_t h1, ft_if]
    obtain ⟨hb, eb⟩ := inR_c (by omega) h1
    have e1 : (B 11 (ix b) = 0) ↔ ¬ hold (S 4) b = true := by
      rw [show hold (S 4) b = hold (S 4) (nI (ix b)) from by rw [← eb], bt_hold _ (by omega), R.2.2.1.1 _ (by omega)]
      cases bt (S 4) (ix b) <;> decide
    by_cases h2 : hold (S 4) b = true
    · rw [if_pos h2, if_neg (fun z => e1.mp z h2)]
      have R' : RB nk nb A (uS S 4 (S 4 &&& (ly b ^^^ (-1)))) (mkA B b 0) T := mk_rel R hb (S' := uS S 4 (S 4 &&& (ly b ^^^ (-1)))) (y := false) (fun k => by
        show bt (S 4 &&& (ly b ^^^ (-1))) k = _
        rcases Nat.lt_or_ge k 32 with h9 | h9
        · rw [eb, b_and, bt_not _ h9, bt_ly (by omega), ← eb]
          by_cases e : k = ix b
          · rw [if_pos e, decide_eq_true e]; exact Bool.and_false _
          · rw [if_neg e, decide_eq_false e]; exact Bool.and_true _
        · rw [b_big h9, b_big h9, if_neg (by omega)]) rfl
      have e2 : rcF (A 7) (S 4 &&& (ly b ^^^ (-1))) nb = rmF (mkA B b 0) nb := rc_eq R'
      refine Or.inl ⟨rfl, rfl, ?_, K, D, R', W, RV_same V rfl rfl rfl rfl rfl rfl rfl, M⟩
      have hs : ∀ i, bt (rmF (mkA B b 0) nb) i = true → bt (rmF B nb) i = true := fun i hi => by
        rw [← e2] at hi
        rw [← rc_eq R]
        exact rc_mono (by omega) (fun k hk => by rw [b_and, Bool.and_eq_true] at hk; exact hk.1) hi
      rw [e2, rc_eq R, bc_btF (bd_and _ (rm_bd _ hn)), xor_an2 hs]
    · rw [if_neg h2, if_pos (e1.mpr h2)]; exact stp_no xISE rfl rfl (show ¬ (2 : Int32) = 0 by decide)
  · rw [if_neg h1, no_f h1]; exact stp_no xIOB rfl rfl (show ¬ (1 : Int32) = 0 by decide)
theorem told_lt {t : Nat} (ht : t ≤ 99) : (nI t < 99) ↔ ¬ nI t = 99 := full_lt (m := 99) ht (by decide)
theorem s_rebuild (h : RR nk nb nm A S B T) (b r : Int32) : stp [xIOB, xISE] (exRebuild A b nb) (mcRebuild B b nb) (bI (decide (r = A 8 (ix b))) = bI (decide (B 9 (ix b) = r)) ∧ RR nk nb nm (rbA A b r) S (mrbA B b r) T) := by
  obtain ⟨K, D, R, W, V, M⟩ := h
  have hn := R.1.1
  obtain ⟨r1, ⟨a5, a6, a7, a8, a9, a11, a12⟩, r3, r4, r5, r6, r7, r8⟩ := R
  unfold exRebuild mcRebuild
  by_cases h1 : inR b nb = true
  · rw [if_pos h1, no_t h1, ft_if]
    obtain ⟨hb, eb⟩ := inR_c (by omega) h1
    obtain ⟨t, ht, et⟩ := r7 (ix b) (by omega)
    have e1 : (A 11 (ix b) < 99) ↔ ¬ B 12 (ix b) = 99 := by rw [← a11, et]; exact told_lt ht
    by_cases h2 : B 12 (ix b) = 99
    · rw [if_pos h2, if_neg (fun z => e1.mp z h2)]; exact stp_no xISE rfl rfl (show ¬ (2 : Int32) = 0 by decide)
    · rw [if_neg h2, if_pos (e1.mpr h2)]
      have ht2 : ∃ t, t ≤ 99 ∧ A 11 (ix b) + 1 = nI t := by
        refine ⟨t + 1, ?_, by rw [et]; exact nI_1 t⟩
        rcases Nat.lt_or_ge t 99 with z | z
        · omega
        · exact absurd (by rw [← a11, et, show t = 99 by omega]; rfl) h2
      have hr7 : ∀ i, i < 24 → ∃ t, t ≤ 99 ∧ upd (A 11) (ix b) (A 11 (ix b) + 1) i = nI t := fun i hi => by
        by_cases e : i = ix b
        · rw [e, pk_us]; exact ht2
        · rw [pk_un e]; exact r7 i hi
      unfold rbA mrbA
      rw [← a8]
      by_cases h3 : r = A 8 (ix b)
      · rw [if_pos h3, if_pos h3.symm]
        refine Or.inl ⟨rfl, rfl, by rw [decide_eq_true h3, decide_eq_true h3.symm], K, D, ⟨r1, ⟨a5, a6, a7, a8, a9, ?_, ?_⟩, r3, r4, r5, r6, hr7, r8⟩, W, RV_same V rfl rfl rfl rfl rfl rfl rfl, M⟩
        · show upd (A 11) _ _ = upd (B 12) _ _; rw [a11]
        · show upd (A 12) _ _ = upd (B 13) _ _; rw [a12]
      · rw [if_neg h3, if_neg (fun z => h3 z.symm)]
        refine Or.inl ⟨rfl, rfl, by rw [decide_eq_false h3, decide_eq_false (fun z => h3 z.symm)], K, D, ⟨r1, ⟨a5, a6, a7, a8, a9, ?_, ?_⟩, r3, r4, r5, r6, hr7, r8⟩, W, RV_same V rfl rfl rfl rfl rfl rfl rfl, M⟩
        · show upd (A 11) _ _ = upd (B 12) _ _; rw [a11]
        · show A 12 = upd (B 13) _ _; rw [a12]; exact (fa_upd_same (Int32.add_zero _).symm).symm
  · rw [if_neg h1, no_f h1]; exact stp_no xIOB rfl rfl (show ¬ (1 : Int32) = 0 by decide)
theorem s_share (h : RR nk nb nm A S B T) (b : Int32) : stp [xIOB, xNSE] (exShare A b nb) (mcShare B b nb) (¬ A 11 (ix b) = 0 ∧ FP.fdiv (FP.i2f (A 12 (ix b))) (FP.i2f (A 11 (ix b))) = FP.fdiv (FP.i2f (B 13 (ix b))) (FP.i2f (B 12 (ix b)))) := by
  obtain ⟨K, D, R, W, V, M⟩ := h
  have hn := R.1.1
  obtain ⟨r1, ⟨a5, a6, a7, a8, a9, a11, a12⟩, r3, r4, r5, r6, r7, r8⟩ := R
  unfold exShare mcShare
  by_cases h1 : inR b nb = true
  · rw [if_pos h1, no_t h1, ft_if]
    obtain ⟨hb, eb⟩ := inR_c (by omega) h1
    obtain ⟨t, ht, et⟩ := r7 (ix b) (by omega)
    have e1 : (0 < A 11 (ix b)) ↔ ¬ B 12 (ix b) = 0 := by
      rw [← a11, et, fa_lt, show ((0 : Int32)) = nI 0 from rfl, nI_ne (show t < 2 ^ 31 by omega) (by decide), nI_toInt (show t < 2 ^ 31 by omega), nI_toInt (show 0 < 2 ^ 31 by decide)]; omega
    by_cases h2 : B 12 (ix b) = 0
    · rw [if_pos h2, if_neg (fun z => e1.mp z h2)]; exact stp_no xNSE rfl rfl (show ¬ (2 : Int32) = 0 by decide)
    · rw [if_neg h2, if_pos (e1.mpr h2)]
      exact Or.inl ⟨rfl, rfl, by rw [a11]; exact h2, by rw [a11, a12]⟩
  · rw [if_neg h1, no_f h1]; exact stp_no xIOB rfl rfl (show ¬ (1 : Int32) = 0 by decide)
theorem s_pass (h : RR nk nb nm A S B T) (d : Int32) : stp [xIAE] (exPass S d) (mcPass T d) (bcF (tbF A nb &&& (tbF (psA A S d nk nb) nb ^^^ (-1))) = btF (twF B T (-1) nk nb &&& (twF B (uS (uS T 5 0) 4 (T 4 + d)) (-1) nk nb ^^^ (-1))) 24 ∧ RR nk nb nm (psA A S d nk nb) (psS S d) B (uS (uS T 5 0) 4 (T 4 + d))) := by
  have h0 := h
  obtain ⟨K, D, R, W, V, M⟩ := h
  obtain ⟨x, hx, ex⟩ := D.2.2.2
  unfold exPass mcPass
  by_cases h1 : d < 1
  · rw [if_pos h1, if_neg (by rw [inB_t]; exact fun z => z.1 h1)]; exact stp_no xIAE rfl rfl (by decide)
  · rw [if_neg h1]
    by_cases h2 : 60 < d
    · rw [if_pos h2, if_neg (by rw [inB_t]; exact fun z => by have := z.2; rw [fa_le] at this; rw [fa_lt] at h2; omega)]; exact stp_no xIAE rfl rfl (by decide)
    · have h3 : d ≤ 60 := by rw [fa_le]; rw [fa_lt] at h2; omega
      rw [if_neg h2, if_pos (inB_t.mpr ⟨h1, h3⟩), ← D.2.1]
      obtain ⟨n, hn1, hn2, rfl⟩ := rngI (a := 1) (b := 60) (by decide) h1 h3 (by decide)
      have e1 : (nI n ≤ 999 - S 1) ↔ ¬ 999 < S 1 + nI n := by
        rw [ex, show (999 : Int32) = nI 999 from rfl, isub (by omega), iadd, fa_le, fa_lt, nI_toInt (by omega), nI_toInt (by omega), nI_toInt (by decide), nI_toInt (by omega)]
        omega
      by_cases h4 : 999 < S 1 + nI n
      · rw [if_pos h4, if_neg (fun z => e1.mp z h4)]; exact stp_no xIAE rfl rfl (by decide)
      · rw [if_neg h4, if_pos (e1.mpr h4)]
        have hle : x + n ≤ 999 := by
          rw [ex, iadd, fa_lt, show (999 : Int32) = nI 999 from rfl, nI_toInt (by decide), nI_toInt (by omega)] at h4; omega
        have h' : RR nk nb nm (psA A S (nI n) nk nb) (psS S (nI n)) B (uS (uS T 5 0) 4 (S 1 + nI n)) := by
          refine ⟨K, ⟨D.1, rfl, D.2.2.1, ⟨x + n, hle, ?_⟩⟩, ⟨R.1, R.2.1, R.2.2.1, R.2.2.2.1, R.2.2.2.2.1, R.2.2.2.2.2.1, R.2.2.2.2.2.2.1, fun i h6 h7 => ⟨(R.2.2.2.2.2.2.2 i h6 h7).1, ?_⟩⟩, W, RV_kv (A := A) (day := S 1 + nI n) rfl rfl rfl rfl rfl rfl, M⟩
          · show S 1 + nI n = _; rw [ex, iadd]
          · show (if i < nb then _ else A 10 i) = 0
            rw [if_neg (by omega)]; exact (R.2.2.2.2.2.2.2 i h6 h7).2
        exact Or.inl ⟨rfl, rfl, few_eq h0 h', h'⟩
end STEPSC
