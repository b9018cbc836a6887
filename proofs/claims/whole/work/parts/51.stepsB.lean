/-! Steps over sets: newest, install, attest, the keys' ends, recalls, rebuilds, days. -/
theorem gr_rng (f : Nat → Int32) (name y : Int32) : ∀ n, grF f name y n = -1 ∨ ∃ k, k < n ∧ grF f name y n = nI k
  | 0 => Or.inl rfl
  | n + 1 => by
    have ih : grF f name y n = -1 ∨ ∃ k, k < n + 1 ∧ grF f name y n = nI k := (gr_rng f name y n).imp id fun ⟨k, hk, e⟩ => ⟨k, by omega, e⟩
    unfold grF
    split
    · split
      · exact Or.inr ⟨n, by omega, rfl⟩
      · exact ih
    · exact ih
theorem gr_neg {f : Nat → Int32} {name y : Int32} {n : Nat} (hn : n ≤ 64) : (grF f name y n = -1) ↔ ¬ (0 : Int32) ≤ grF f name y n := by
  rcases gr_rng f name y n with e | ⟨k, hk, e⟩
  · rw [e]; decide
  · rw [e, fa_eq, fa_le, nI_toInt (by omega)]
    show (k : Int) = -1 ↔ ¬ (0 : Int) ≤ (k : Int)
    omega
section STEPSB
variable {nk nb nm : Nat} {A B A' B' : Nat → Nat → Int32} {S T S' T' : Nat → Int32}
theorem nw_eq (h : RR nk nb nm A S B T) (name : Int32) : nwX A S name nb = mnX B T name nk nb := by
  obtain ⟨K, D, R, W, V, -⟩ := h
  unfold nwX mnX
  rw [tb_eq K D R W V, rc_eq R, R.2.1.1]
  have hn := R.1.1
  exact nw_gr _ _ nb (by omega) (fun _ _ => rfl)
theorem in_eq (h : RR nk nb nm A S B T) {x : Int32} (name : Int32) (hx : ix x < nm) : inX A x name nb = miX B T x name nk nb := by
  obtain ⟨K, D, R, W, V, M⟩ := h
  unfold inX miX
  rw [tb_eq K D R W V, R.2.1.1, (M.2.2.2.1 _ hx).2]
  have hn := R.1.1
  refine nw_gr _ _ nb (by omega) (fun k _ => ?_)
  rw [b_and, b_and, b_and, b_and]
  exact Bool.and_comm _ _
theorem s_newest (h : RR nk nb nm A S B T) (name : Int32) : stp [xIAE, xNSE] (exNewest A S name nb) (mcNewest B T name nk nb) (nwX A S name nb = mnX B T name nk nb) := by
  have hn := h.2.2.1.1.1
  unfold exNewest mcNewest exF
  rw [nw_eq h]
  by_cases h1 : inR name 5 = true
  · rw [if_pos h1, no_t h1]
    have hg : (mnX B T name nk nb = -1) ↔ ¬ (0 : Int32) ≤ mnX B T name nk nb := gr_neg (by omega)
    by_cases h2 : mnX B T name nk nb = -1
    · rw [if_pos h2, if_neg (hg.mp h2)]; exact stp_no xNSE rfl rfl (show ¬ (2 : Int32) = 0 by decide)
    · rw [if_neg h2, if_pos (Classical.byContradiction fun z => h2 (hg.mpr z))]
      exact Or.inl ⟨rfl, rfl, rfl⟩
  · rw [if_neg h1, no_f h1]; exact stp_no xIAE rfl rfl (show ¬ (1 : Int32) = 0 by decide)
theorem s_install (h : RR nk nb nm A S B T) (x name : Int32) : stp [xIOB, xIAE, xUOE, xNSE] (exInstall A S x name nb nm) (mcInstall B T x name nk nb nm) (inX A x name nb = miX B T x name nk nb) := by
  have hn := h.2.2.1.1.1
  have hm := h.2.2.2.2.2.1
  unfold exInstall mcInstall exF
  by_cases h0 : inR x nm = true
  · have hx := (inR_c (by omega) h0).1
    rw [if_pos h0, no_t h0, in_eq h name hx]
    by_cases h1 : inR name 5 = true
    · rw [if_pos h1, no_t h1, exp_eq h hx]
      by_cases h3 : oldB B T (ix x) = true
      · rw [if_pos h3, h3]; exact stp_no xUOE rfl rfl (show ¬ (3 : Int32) = 0 by decide)
      · rw [if_neg h3, Bool.eq_false_iff.mpr h3]
        have hg : (miX B T x name nk nb = -1) ↔ ¬ (0 : Int32) ≤ miX B T x name nk nb := gr_neg (by omega)
        by_cases h2 : miX B T x name nk nb = -1
        · rw [if_pos h2, if_neg (hg.mp h2)]; exact stp_no xNSE rfl rfl (show ¬ (4 : Int32) = 0 by decide)
        · rw [if_neg h2, if_pos (Classical.byContradiction fun z => h2 (hg.mpr z))]
          exact Or.inl ⟨rfl, rfl, rfl⟩
    · rw [if_neg h1, no_f h1]; exact stp_no xIAE rfl rfl (show ¬ (2 : Int32) = 0 by decide)
  · rw [if_neg h0, no_f h0]; exact stp_no xIOB rfl rfl (show ¬ (1 : Int32) = 0 by decide)
theorem sg_or {g : Nat → Int32} {x L : Int32} {n k0 : Nat} (h : n ≤ 32) (hk : k0 < n) (hL : bt L k0 = true) (hg : ∀ k, k < n → ∃ t, t < 4 ∧ g k = nI t) : sgF g ((x ||| ly (nI k0)) &&& L) n = sgF g (x &&& L) n ||| ly (g k0) := by
  refine b_ext fun j hj => ?_
  obtain ⟨t, ht, e⟩ := hg k0 hk
  rw [b_or, bt_sg _ _ hj n h hg, bt_sg _ _ hj n h hg, e, bt_ly (by omega), Bool.eq_iff_iff, Bool.or_eq_true, any_iff, any_iff]
  constructor
  · rintro ⟨k, hk2, hp⟩
    rw [b_and, b_or, bt_ly (by omega), Bool.and_eq_true, Bool.and_eq_true, Bool.or_eq_true] at hp
    obtain ⟨⟨hp1 | hp1, hp2⟩, hp3⟩ := hp
    · exact Or.inl ⟨k, hk2, by rw [b_and, hp1, hp2, hp3]; rfl⟩
    · obtain rfl := of_decide_eq_true hp1
      have h3 := of_decide_eq_true hp3
      rw [e, nI_ne (by omega) (by omega)] at h3
      exact Or.inr (decide_eq_true h3.symm)
  · rintro (⟨k, hk2, hp⟩ | hp)
    · rw [b_and, Bool.and_eq_true, Bool.and_eq_true] at hp
      exact ⟨k, hk2, by rw [b_and, b_or, hp.1.1, hp.1.2, hp.2]; rfl⟩
    · obtain rfl := of_decide_eq_true hp
      exact ⟨k0, hk, by rw [b_and, b_or, bt_ly (by omega), hL, e]; simp⟩
theorem s_attest (h : RR nk nb nm A S B T) (b key : Int32) : stp [xIOB, xISE, xUOE] (exAttest A S b key nk nb) (mcAttest B T b key nk nb) (bcF (A 9 (ix b) ||| ly key) = btF (B 10 (ix b) ||| ((1 : Int32) <<< (key &&& 31))) 24 ∧ RR nk nb nm (atA A b key) S (uA B 10 (upd (B 10) (ix b) (B 10 (ix b) ||| ((1 : Int32) <<< (key &&& 31))))) T) := by
  obtain ⟨K, D, R, W, V, M⟩ := h
  have hn := R.1.1
  have hm := K.1
  unfold exAttest mcAttest
  by_cases h1 : inR b nb = true
  · rw [if_pos h1, if_pos h1]
    obtain ⟨hb, eb⟩ := inR_c (by omega) h1
    by_cases h2 : inR key nk = true
    · rw [if_pos h2, if_pos h2]
      obtain ⟨hk, ek⟩ := inR_c (by omega) h2
      rw [live_eq K D.2.1 (show ix key < 8 by omega)]
      by_cases h3 : liveM B T (ix key) = true
      · rw [if_pos h3, if_pos h3]
        have e1 : hold (A 9 (ix b)) key = true ↔ (B 10 (ix b) >>> (key &&& 31)) &&& 1 = 1 := by
          rw [ek, bt_hold _ (by omega), bt_sh _ (by omega), R.2.1.2.2.2.2.1]
        have e2 : hold (rcF (A 7) (S 4) nb) b = gnB B (ix b) := by
          rw [rc_eq R, show hold (rmF B nb) b = hold (rmF B nb) (nI (ix b)) from by rw [← eb], bt_hold _ (by omega), rmF_st, bt_st _ _ _ (by omega), decide_eq_true hb, Bool.true_and]
        by_cases h4 : (B 10 (ix b) >>> (key &&& 31)) &&& 1 = 1
        · rw [if_pos (e1.mpr h4), if_pos h4]; exact stp_no xISE rfl rfl (by decide)
        · rw [if_neg (fun z => h4 (e1.mp z)), if_neg h4, e2]
          by_cases h5 : gnB B (ix b) = true
          · rw [if_pos h5, if_pos h5]; exact stp_no xUOE rfl rfl (by decide)
          · rw [if_neg h5, if_neg h5]
            have hor : bd nk (A 9 (ix b) ||| ly key) := bd_or (R.2.2.2.2.2.1 _ (by omega)) (by rw [ek]; exact bd_ly (by omega) hk)
            refine Or.inl ⟨rfl, rfl, ?_, K, D, ⟨R.1, ?_, R.2.2.1, R.2.2.2.1, R.2.2.2.2.1, fun i hi => ?_, R.2.2.2.2.2.2.1, fun i h6 h7 => ?_⟩, W, fun i hi => ?_, M⟩
            · rw [bc_btF (bd_mono hor (by omega)), R.2.1.2.2.2.2.1]; rfl
            · refine ⟨R.2.1.1, R.2.1.2.1, R.2.1.2.2.1, R.2.1.2.2.2.1, ?_, R.2.1.2.2.2.2.2.1, R.2.1.2.2.2.2.2.2⟩
              show upd (A 9) _ _ = upd (B 10) _ _
              rw [R.2.1.2.2.2.2.1]; rfl
            · show bd nk (upd (A 9) (ix b) _ i)
              by_cases e : i = ix b
              · rw [e, pk_us]; exact hor
              · rw [pk_un e]; exact R.2.2.2.2.2.1 i hi
            · show upd (A 9) (ix b) _ i = 0 ∧ upd (A 10) (ix b) _ i = 0
              rw [pk_un (by omega), pk_un (by omega)]; exact R.2.2.2.2.2.2.2 i h6 h7
            · show upd (A 10) (ix b) _ i = sgF (A 2) (upd (A 9) (ix b) _ i &&& liveF (atA A b key) S (S 1) nk) nk
              rw [show liveF (atA A b key) S (S 1) nk = liveF A S (S 1) nk from liveF_c (A := A) (S := S) (A' := atA A b key) (S' := S) rfl rfl rfl _ _]
              by_cases e : i = ix b
              · rw [e, pk_us, pk_us, V _ hb, show ly key = ly (nI (ix key)) from by rw [← ek], sg_or (by omega) hk (by rw [live_bt K D.2.1 hk]; exact h3) K.2.2.2.2.2.2.2]
              · rw [pk_un e, pk_un e]; exact V i hi
      · rw [if_neg h3, if_neg h3]; exact stp_no xISE rfl rfl (by decide)
    · rw [if_neg h2, if_neg h2]; exact stp_no xIOB rfl rfl (by decide)
  · rw [if_neg h1, if_neg h1]; exact stp_no xIOB rfl rfl (by decide)
theorem few_eq (h : RR nk nb nm A S B T) (h' : RR nk nb nm A' S' B' T') : bcF (tbF A nb &&& (tbF A' nb ^^^ (-1))) = btF (twF B T (-1) nk nb &&& (twF B' T' (-1) nk nb ^^^ (-1))) 24 := by
  obtain ⟨K, D, R, W, V, -⟩ := h
  obtain ⟨K', D', R', W', V', -⟩ := h'
  rw [tb_eq K D R W V, tb_eq K' D' R' W' V', bc_btF (bd_and _ (tw_bd _ _ _ R.1.1))]
/-- the vouchers newly kept -/
theorem RV_kv {day : Int32} (h2 : A' 2 = A 2) (h3 : A' 3 = A 3) (h4 : A' 4 = A 4) (h9 : A' 9 = A 9) (h10 : A' 10 = kvF A S' day nk nb) (e1 : S' 1 = day) : RV nk nb A' S' := fun b hb => by
  rw [h2, h9, h10, e1, liveF_c h3 h4 rfl]
  show (if b < nb then _ else _) = _
  rw [if_pos hb]
theorem s_loseKey (h : RR nk nb nm A S B T) (key : Int32) : stp [xIOB, xISE] (exLoseKey S key nk) (mcLoseKey B key nk) (bcF (tbF A nb &&& (tbF (lkA A S key nk nb) nb ^^^ (-1))) = btF (twF B T (-1) nk nb &&& (twF (uA B 5 (upd (B 5) (ix key) 1)) T (-1) nk nb ^^^ (-1))) 24 ∧ RR nk nb nm (lkA A S key nk nb) (lkS S key) (uA B 5 (upd (B 5) (ix key) 1)) T) := by
  have h0 := h
  obtain ⟨⟨k1, k2, k3, k4, k5, k6, k7, k8⟩, D, R, W, V, M⟩ := h
  unfold exLoseKey mcLoseKey
  by_cases h1 : inR key nk = true
  · rw [if_pos h1, no_t h1]
    obtain ⟨hk, ek⟩ := inR_c (by omega) h1
    have e1 : (B 5 (ix key) = 0) ↔ ¬ hold (S 2) key = true := by
      rw [show hold (S 2) key = hold (S 2) (nI (ix key)) from by rw [← ek], bt_hold _ (by omega), k7 _ (by omega)]
      cases bt (S 2) (ix key) <;> decide
    by_cases h2 : hold (S 2) key = true
    · rw [if_pos h2, if_neg (fun z => e1.mp z h2)]; exact stp_no xISE rfl rfl (show ¬ (2 : Int32) = 0 by decide)
    · rw [if_neg h2, if_pos (e1.mpr h2)]
      have h' : RR nk nb nm (lkA A S key nk nb) (lkS S key) (uA B 5 (upd (B 5) (ix key) 1)) T := by
        refine ⟨⟨k1, k2, k3, k4, k5, k6, fun j hj => ?_, k8⟩, D, ⟨R.1, R.2.1, R.2.2.1, R.2.2.2.1, R.2.2.2.2.1, R.2.2.2.2.2.1, R.2.2.2.2.2.2.1, fun i h6 h7 => ⟨(R.2.2.2.2.2.2.2 i h6 h7).1, ?_⟩⟩, W, RV_kv (A := A) (day := S 1) rfl rfl rfl rfl rfl rfl, M⟩
        · show upd (B 5) (ix key) 1 j = b01 (bt (S 2 ||| ly key) j)
          rw [ek, b_or, bt_ly (by omega)]
          by_cases e : j = ix key
          · rw [← ek, e, pk_us, decide_eq_true rfl, Bool.or_true]; rfl
          · rw [← ek, pk_un e, decide_eq_false e, Bool.or_false]; exact k7 j hj
        · show (if i < nb then _ else A 10 i) = 0
          rw [if_neg (by omega)]; exact (R.2.2.2.2.2.2.2 i h6 h7).2
      exact Or.inl ⟨rfl, rfl, few_eq h0 h', h'⟩
  · rw [if_neg h1, no_f h1]; exact stp_no xIOB rfl rfl (show ¬ (1 : Int32) = 0 by decide)
end STEPSB
