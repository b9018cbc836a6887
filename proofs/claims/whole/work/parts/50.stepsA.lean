/-! Steps that read, and the small writers. -/
theorem no_t {x : Int32} {n : Nat} (h : inR x n = true) : noR x n = false := by unfold noR; rw [h]; rfl
theorem no_f {x : Int32} {n : Nat} (h : ¬ inR x n = true) : noR x n = true := by unfold noR; rw [Bool.eq_false_iff.mpr h]; rfl
theorem stp_R {x : Int32} {n : Nat} {good : Prop} (hg : inR x n = true → good) : stp [xIOB] (exR x n xIOB) (mcR x n) good := by
  unfold exR mcR
  by_cases h : inR x n = true
  · rw [if_pos h, no_t h]; exact Or.inl ⟨rfl, rfl, hg h⟩
  · rw [if_neg h, no_f h]; exact stp_no xIOB rfl rfl (by decide)
theorem ft_if {α : Type} {x y : α} : (if (false : Bool) = true then x else y) = y := rfl
theorem tt_if {α : Type} {x y : α} : (if (true : Bool) = true then x else y) = x := rfl
/-- a number between two small ones -/
theorem rngI {x : Int32} {a b : Nat} (hb : b < 2 ^ 31) (h1 : ¬ x < nI a) (h2 : x ≤ nI b) (hab : a ≤ b) : ∃ n, a ≤ n ∧ n ≤ b ∧ x = nI n := by
  rw [fa_lt, nI_toInt (by omega)] at h1
  rw [fa_le, nI_toInt hb] at h2
  refine ⟨x.toInt.toNat, by omega, by omega, ?_⟩
  rw [fa_eq, nI_toInt (by omega)]
  omega
theorem inB_t {v lo hi : Int32} : inB v lo hi = true ↔ ¬ v < lo ∧ v ≤ hi := by
  unfold inB
  rw [Bool.and_eq_true, Bool.not_eq_true', Bool.not_eq_true', decide_eq_false_iff_not, decide_eq_false_iff_not]
  exact and_congr_right fun _ => by rw [fa_lt, fa_le]; omega
section STEPSA
variable {nk nb nm : Nat} {A B : Nat → Nat → Int32} {S T : Nat → Int32}
theorem liveF_c {A' : Nat → Nat → Int32} {S' : Nat → Int32} (h3 : A' 3 = A 3) (h4 : A' 4 = A 4) (h : S' 2 = S 2) (day : Int32) (n : Nat) : liveF A' S' day n = liveF A S day n := by
  rw [liveF_st, liveF_st]
  exact st_cong fun k _ => by unfold liveB; rw [h3, h4, h]
theorem RV_same {A' : Nat → Nat → Int32} {S' : Nat → Int32} (V : RV nk nb A S) (h2 : A' 2 = A 2) (h3 : A' 3 = A 3) (h4 : A' 4 = A 4) (h9 : A' 9 = A 9) (h10 : A' 10 = A 10) (e1 : S' 1 = S 1) (e2 : S' 2 = S 2) : RV nk nb A' S' := fun b hb => by
  rw [h2, h9, h10, e1, liveF_c h3 h4 e2]; exact V b hb
theorem s_isLive (h : RR nk nb nm A S B T) (key : Int32) : stp [xIOB] (exR key nk xIOB) (mcR key nk) (bI (liveB A S (ix key) (S 1)) = bI (!noR key nk && liveM B T (ix key))) := stp_R fun hk => by
  obtain ⟨K, D, -⟩ := h
  have hn := K.1
  rw [no_t hk, live_eq K D.2.1 (Nat.lt_of_lt_of_le (inR_c (by omega) hk).1 hn)]; rfl
theorem s_nameOf (h : RR nk nb nm A S B T) (b : Int32) : stp [xIOB] (exR b nb xIOB) (mcR b nb) (A 5 (ix b) = B 6 (ix b)) := stp_R fun hk => by rw [h.2.2.1.2.1.1]
theorem s_version (h : RR nk nb nm A S B T) (b : Int32) : stp [xIOB] (exR b nb xIOB) (mcR b nb) (A 6 (ix b) = B 7 (ix b)) := stp_R fun hk => by rw [h.2.2.1.2.1.2.1]
theorem s_used (h : RR nk nb nm A S B T) (b : Int32) : stp [xIOB] (exR b nb xIOB) (mcR b nb) (bcF (A 7 (ix b)) = btF (B 8 (ix b)) 24) := stp_R fun hk => by
  obtain ⟨-, -, R, -⟩ := h
  have hn := R.1.1
  have hb := (inR_c (by omega) hk).1
  rw [bc_btF (bd_mono (R.2.2.2.2.1 _ hb) (by omega)), R.2.1.2.2.1]
theorem s_isRecalled (h : RR nk nb nm A S B T) (b : Int32) : stp [xIOB] (exR b nb xIOB) (mcR b nb) (bI (hold (rcF (A 7) (S 4) nb) b) = bI (!noR b nb && gnB B (ix b))) := stp_R fun hk => by
  obtain ⟨-, -, R, -⟩ := h
  have hn := R.1.1
  obtain ⟨hb, he⟩ := inR_c (by omega) hk
  rw [no_t hk, rc_eq R]
  have h1 : hold (rmF B nb) b = gnB B (ix b) := by
    rw [show hold (rmF B nb) b = hold (rmF B nb) (nI (ix b)) from by rw [← he], bt_hold _ (by omega), rmF_st, bt_st _ _ _ (by omega), decide_eq_true hb, Bool.true_and]
  rw [h1]; rfl
theorem s_isTrusted (h : RR nk nb nm A S B T) (b : Int32) : stp [xIOB] (exR b nb xIOB) (mcR b nb) (bI (sufB A (A 10 (ix b)) (ix b)) = bI (!noR b nb && enB B T (ix b) (-1) nk)) := stp_R fun hk => by
  obtain ⟨K, D, R, W, V, -⟩ := h
  have hn := R.1.1
  rw [no_t hk, tr_eq K D R W V (inR_c (by omega) hk).1]; rfl
theorem s_score (h : RR nk nb nm A S B T) (b : Int32) : stp [xIOB] (exR b nb xIOB) (mcR b nb) (scF (A 0) (A 10 (ix b)) 4 = smF B T (ix b) (-1) nk 4) := stp_R fun hk => by
  obtain ⟨K, D, R, W, V, -⟩ := h
  have hn := R.1.1
  exact score_eq W.1 (fun _ hj => v_eq K D R V (inR_c (by omega) hk).1 hj) 4 (Nat.le_refl _)
theorem s_sum (h : RR nk nb nm A S B T) : dsF A nb = mdF B T nk nb := by
  obtain ⟨K, D, R, W, V, -⟩ := h
  have key : ∀ n, n ≤ nb → dsF A n = mdF B T nk n := by
    intro n
    induction n with
    | zero => intro _; rfl
    | succ n ih =>
      intro hn
      unfold dsF mdF
      rw [ih (by omega), score_eq W.1 (fun _ hj => v_eq K D R V (show n < nb by omega) hj) 4 (Nat.le_refl _)]
  exact key nb (Nat.le_refl _)
theorem exp_eq (h : RR nk nb nm A S B T) {i : Nat} (hi : i < nm) : expB A S i = oldB B T i := by
  obtain ⟨-, D, -, -, -, M⟩ := h
  unfold expB oldB
  rw [(M.2.2.2.1 i hi).1, D.1, D.2.1]
  have hn := M.1
  congr 1
  rcases M.2.2.2.2.1 i (by omega) with e | ⟨t, ht, e⟩
  · rw [e]; rfl
  · rw [e, decide_eq_decide]
    constructor
    · intro z
      rw [fa_eq, nI_toInt (by omega)] at z
      exact absurd z (by show ¬ (t : Int) = -1; omega)
    · intro z
      exact absurd z (nI_nlt (a := t) (b := 0) (by omega) (by omega))
theorem s_isExpired (h : RR nk nb nm A S B T) (x : Int32) : stp [xIOB] (exR x nm xIOB) (mcR x nm) (bI (expB A S (ix x)) = bI (!noR x nm && oldB B T (ix x))) := stp_R fun hk => by
  have hn := h.2.2.2.2.2.1
  rw [no_t hk, exp_eq h (inR_c (by omega) hk).1]; rfl
theorem s_uses (h : RR nk nb nm A S B T) (b o : Int32) : stp [xIOB] (exUses b o nb) (mcUses b o nb) (bI (hold (A 7 (ix b)) o) = bI (decide (mcUses b o nb = 0) && decide ((B 8 (ix b) >>> (o &&& 31)) &&& 1 = 1))) := by
  obtain ⟨-, -, R, -⟩ := h
  have hn := R.1.1
  unfold exUses mcUses exR
  by_cases h1 : inR b nb = true
  · rw [if_pos h1, if_pos h1]
    by_cases h2 : inR o nb = true
    · rw [if_pos h2, if_pos h2]
      obtain ⟨ho, he⟩ := inR_c (by omega) h2
      refine Or.inl ⟨rfl, rfl, ?_⟩
      rw [he, R.2.1.2.2.1, bt_hold _ (by omega), bt_shd _ (by omega)]; rfl
    · rw [if_neg h2, if_neg h2]; exact stp_no xIOB rfl rfl (by decide)
  · rw [if_neg h1, if_neg h1]; exact stp_no xIOB rfl rfl (by decide)
theorem s_vouches (h : RR nk nb nm A S B T) (b sg : Int32) : stp [xIOB, xIAE] (exVouches b sg nb) (mcVouch b sg nb) (bI (hold (A 10 (ix b)) sg) = bI (!noR b nb && (inR sg 4 && anyF (bkP B T sg (ix b) (-1)) nk))) := by
  obtain ⟨K, D, R, W, V, -⟩ := h
  have hn := R.1.1
  unfold exVouches mcVouch exR
  by_cases h1 : inR b nb = true
  · rw [if_pos h1, no_t h1]
    by_cases h2 : inR sg 4 = true
    · rw [if_pos h2, if_pos h2]
      obtain ⟨ho, he⟩ := inR_c (by decide) h2
      refine Or.inl ⟨rfl, rfl, ?_⟩
      rw [h2, he, bt_hold _ (by omega), v_eq K D R V (inR_c (by omega) h1).1 ho]; rfl
    · rw [if_neg h2, if_neg h2]; exact stp_no xIAE rfl rfl (by decide)
  · rw [if_neg h1, no_f h1]; exact stp_no xIOB rfl rfl (show ¬ (1 : Int32) = 0 by decide)
theorem s_vouchesByList (h : RR nk nb nm A S B T) (b sg : Int32) : stp [xIOB, xIAE] (exVouches b sg nb) (mcVouch b sg nb) (bI (hold (sgF (A 2) (A 9 (ix b) &&& liveF A S (S 1) nk) nk) sg) = bI (!noR b nb && (inR sg 4 && anyF (bkP B T sg (ix b) (-1)) nk))) := by
  rcases s_vouches h b sg with ⟨h1, h2, h3⟩ | h1
  · refine Or.inl ⟨h1, h2, ?_⟩
    have hb : inR b nb = true := by
      refine Classical.byContradiction fun z => ?_
      unfold exVouches at h1; rw [if_neg z] at h1; cases h1
    have hn := h.2.2.1.1.1
    rw [← h.2.2.2.2.1 _ (inR_c (by omega) hb).1]; exact h3
  · exact Or.inr h1
theorem s_setWeight (h : RR nk nb nm A S B T) (signer weight : Int32) : stp [xIAE] (exSetWeight signer weight) (mcSetWeight signer weight) (A 0 (ix signer) = B 0 (ix signer) ∧ RR nk nb nm (uA A 0 (upd (A 0) (ix signer) weight)) S (uA B 0 (upd (B 0) (ix signer) weight)) T) := by
  obtain ⟨K, D, R, W, V, M⟩ := h
  unfold exSetWeight mcSetWeight
  by_cases h1 : inR signer 4 = true
  · rw [if_pos h1, if_pos h1]
    by_cases h2 : weight < 0
    · rw [if_pos h2, if_neg (by rw [inB_t]; exact fun z => z.1 h2)]; exact stp_no xIAE rfl rfl (by decide)
    · rw [if_neg h2]
      by_cases h3 : weight ≤ 100
      · rw [if_pos h3, if_pos (inB_t.mpr ⟨h2, h3⟩)]
        refine Or.inl ⟨rfl, rfl, by rw [W.1], K, D, R, ⟨?_, W.2.1, fun j hj => ?_⟩, RV_same V rfl rfl rfl rfl rfl rfl rfl, M⟩
        · show upd (A 0) _ _ = upd (B 0) _ _; rw [W.1]
        · show ∃ n, n ≤ 100 ∧ upd (A 0) (ix signer) weight j = nI n
          by_cases e : j = ix signer
          · rw [e, pk_us]
            obtain ⟨n, -, h5, h6⟩ := rngI (a := 0) (b := 100) (by decide) h2 h3 (by decide)
            exact ⟨n, h5, h6⟩
          · rw [pk_un e]; exact W.2.2 j hj
      · rw [if_neg h3, if_neg (by rw [inB_t]; exact fun z => h3 z.2)]; exact stp_no xIAE rfl rfl (by decide)
  · rw [if_neg h1, if_neg h1]; exact stp_no xIAE rfl rfl (by decide)
theorem s_setThreshold (h : RR nk nb nm A S B T) (name thr : Int32) : stp [xIAE] (exSetThr name thr) (mcSetThr name thr) (A 1 (ix name) = B 1 (ix name) ∧ RR nk nb nm (uA A 1 (upd (A 1) (ix name) thr)) S (uA B 1 (upd (B 1) (ix name) thr)) T) := by
  obtain ⟨K, D, R, W, V, M⟩ := h
  unfold exSetThr mcSetThr
  by_cases h1 : inR name 5 = true
  · rw [if_pos h1, no_t h1]
    by_cases h2 : thr < 1
    · rw [if_pos h2, show inB thr 1 400 = false from Bool.eq_false_iff.mpr (by rw [Ne, inB_t]; exact fun z => z.1 h2)]; exact stp_no xIAE rfl rfl (by decide)
    · rw [if_neg h2]
      by_cases h3 : thr ≤ 400
      · rw [if_pos h3, inB_t.mpr ⟨h2, h3⟩]
        refine Or.inl ⟨rfl, rfl, by rw [W.2.1], K, D, R, ⟨W.1, ?_, W.2.2⟩, RV_same V rfl rfl rfl rfl rfl rfl rfl, M⟩
        show upd (A 1) _ _ = upd (B 1) _ _; rw [W.2.1]
      · rw [if_neg h3, show inB thr 1 400 = false from Bool.eq_false_iff.mpr (by rw [Ne, inB_t]; exact fun z => h3 z.2)]; exact stp_no xIAE rfl rfl (by decide)
  · rw [if_neg h1, no_f h1]; exact stp_no xIAE rfl rfl (show ¬ (1 : Int32) = 0 by decide)
theorem s_setExpiry (h : RR nk nb nm A S B T) (d : Int32) : stp [xIAE] (exSetExpiry d) (mcSetExpiry d) (S 0 = T 3 ∧ RR nk nb nm A (uS S 0 d) B (uS (uS T 5 0) 3 d)) := by
  obtain ⟨K, D, R, W, V, M⟩ := h
  unfold exSetExpiry mcSetExpiry
  by_cases h2 : d < 0
  · rw [if_pos h2, show inB d 0 99 = false from Bool.eq_false_iff.mpr (by rw [Ne, inB_t]; exact fun z => z.1 h2)]; exact stp_no xIAE rfl rfl (by decide)
  · rw [if_neg h2]
    by_cases h3 : d ≤ 99
    · rw [if_pos h3, inB_t.mpr ⟨h2, h3⟩]
      obtain ⟨n, -, h5, h6⟩ := rngI (a := 0) (b := 99) (by decide) h2 h3 (by decide)
      exact Or.inl ⟨rfl, rfl, D.1, K, ⟨rfl, D.2.1, ⟨n, h5, h6⟩, D.2.2.2⟩, R, W, RV_same V rfl rfl rfl rfl rfl rfl rfl, M⟩
    · rw [if_neg h3, show inB d 0 99 = false from Bool.eq_false_iff.mpr (by rw [Ne, inB_t]; exact fun z => h3 z.2)]; exact stp_no xIAE rfl rfl (by decide)
theorem s_addMirror (h : RR nk nb nm A S B T) : stp [xISE] (exAddMirror S) (mcAddMirror T) (S 6 = T 2 ∧ nm < 3 ∧ RR nk nb (nm + 1) (uA (uA A 13 (upd (A 13) nm (-1))) 14 (upd (A 14) nm 0)) (uS S 6 (S 6 + 1)) B (uS (uS T 5 0) 2 (T 2 + 1))) := by
  obtain ⟨K, D, R, W, V, m1, m2, m3, m4, m5, m6⟩ := h
  have cf : (S 6 < 3) ↔ ¬ T 2 = 3 := by rw [m2, m3]; exact full_lt m1 (by decide)
  unfold exAddMirror mcAddMirror
  by_cases h5 : T 2 = 3
  · rw [if_pos h5, if_neg (fun z => cf.mp z h5)]; exact stp_no xISE rfl rfl (by decide)
  · rw [if_neg h5, if_pos (cf.mpr h5)]
    have hlt : nm < 3 := by
      rcases Nat.lt_or_ge nm 3 with z | z
      · exact z
      · exact absurd (by rw [m3, show nm = 3 by omega]; rfl) h5
    refine Or.inl ⟨rfl, rfl, m2.trans m3.symm, hlt, K, D, R, W, RV_same V rfl rfl rfl rfl rfl rfl rfl, by omega, ?_, ?_, fun i hi => ?_, m5, fun i h1 h2 => m6 i (by omega) h2⟩
    · show S 6 + 1 = _; rw [m2]; exact nI_1 nm
    · show T 2 + 1 = _; rw [m3]; exact nI_1 nm
    · show upd (A 13) nm (-1) i = B 16 i ∧ upd (A 14) nm 0 i = _
      by_cases e : i = nm
      · subst e
        obtain ⟨e1, e2⟩ := m6 i (Nat.le_refl _) hlt
        rw [pk_us, pk_us, e1, e2]
        exact ⟨rfl, b_ext fun j _ => by rw [b_and, b_0]; rfl⟩
      · rw [pk_un e, pk_un e]; exact m4 i (by omega)
theorem s_update (h : RR nk nb nm A S B T) (x : Int32) : stp [xIOB] (exR x nm xIOB) (mcR x nm) (S 5 = T 1 ∧ RR nk nb nm (upA A S x nb) S (mupA B T x nb) T) := stp_R fun hk => by
  obtain ⟨K, D, R, W, V, m1, m2, m3, m4, m5, m6⟩ := h
  obtain ⟨hx, -⟩ := inR_c (by omega) hk
  obtain ⟨d, hd, e0⟩ := D.2.2.2
  refine ⟨R.1.2.1.trans R.1.2.2.symm, K, D, R, W, RV_same V rfl rfl rfl rfl rfl rfl rfl, m1, m2, m3, fun i hi => ?_, fun i hi => ?_, fun i h1 h2 => ?_⟩
  · show upd (A 13) (ix x) (S 1) i = upd (B 16) (ix x) (T 4) i ∧ upd (A 14) (ix x) _ i = (upd (B 14) (ix x) _ i &&& (upd (B 15) (ix x) _ i ^^^ (-1)))
    by_cases e : i = ix x
    · rw [e, pk_us, pk_us, pk_us, pk_us, pk_us, D.2.1, rc_eq R, R.1.2.1, R.1.2.2]; exact ⟨rfl, rfl⟩
    · rw [pk_un e, pk_un e, pk_un e, pk_un e, pk_un e]; exact m4 i hi
  · show upd (B 16) (ix x) (T 4) i = -1 ∨ ∃ t, t ≤ 999 ∧ upd (B 16) (ix x) (T 4) i = nI t
    by_cases e : i = ix x
    · rw [e, pk_us]; exact Or.inr ⟨d, hd, D.2.1.symm.trans e0⟩
    · rw [pk_un e]; exact m5 i hi
  · show upd (B 16) (ix x) (T 4) i = -1 ∧ upd (B 14) (ix x) _ i = 0
    rw [pk_un (by omega), pk_un (by omega)]; exact m6 i h1 h2
end STEPSA
