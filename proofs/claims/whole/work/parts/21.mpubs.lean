/-! The model's public methods. Rows written by wip/whole/gen/part21.py. -/
theorem ne_c {x y : Int32} {a n : Nat} (hx : x = nI a) (ha : a ≤ n) (hn : n < 2 ^ 31) (hy : y = nI n) (h : ¬ x = y) : a < n := by
  rcases Nat.lt_or_ge a n with h2 | h2
  · exact h2
  · exact absurd (by rw [hx, hy, Nat.le_antisymm ha h2]) h
theorem i10 : ((1 : Int32) = 0) = False := by decide
theorem i20 : ((2 : Int32) = 0) = False := by decide
theorem i30 : ((3 : Int32) = 0) = False := by decide
theorem i40 : ((4 : Int32) = 0) = False := by decide
theorem sub1 (x : Int32) : x + 1 - 1 = x := by
  apply Int32.toBitVec_inj.mp
  simp
theorem wM_A {cy : Nat → ClassId} {q : Nat → Nat} {A A' : Nat → Nat → Int32} {S S' : Nat → Int32} (h : A = A') (h' : S = S') : wM cy q A S = wM cy q A' S' := by rw [h, h']
theorem nn_sh0 (x y : Int32) (h : ¬ y = 0) : vf_n32 (FP.fdiv (FP.i2f x) (FP.i2f y)) := by
  refine nn32 (FP.Core.fdiv_out (FP.Core.i2f_fin x).notNaN (FP.Core.i2f_fin y) ?_)
  rw [FP.Core.zero_bits232]
  have h1 : y.toInt ≠ 0 := fun e => h (Int32.toInt_inj.mp e)
  have h2 := (FP.Core.i2f_big h1).1
  show ¬ (FP.Core.i2f y).toNat % 2 ^ 31 = 0
  omega
def mcAddKey (S : Nat → Int32) (signer first last : Int32) : Int32 := if inR signer 4 = true then (if first < S 4 then 1 else if last < first then 1 else if last ≤ 999 then (if S 0 = 8 then 2 else 0) else 1) else 1
def mcLoseKey (A : Nat → Nat → Int32) (key : Int32) (nk : Nat) : Int32 := if noR key nk = true then 1 else if A 5 (ix key) = 0 then 0 else 2
def mcExtendKey (A : Nat → Nat → Int32) (S : Nat → Int32) (key last : Int32) (nk : Nat) : Int32 := if noR key nk = true then 1 else if last ≤ A 4 (ix key) then 2 else if last ≤ 999 then (if A 5 (ix key) = 0 then (if S 4 ≤ A 4 (ix key) then 0 else 3) else 3) else 2
def mcSetWeight (signer weight : Int32) : Int32 := if inR signer 4 = true then (if inB weight 0 100 = true then 0 else 1) else 1
def mcSetThr (name thr : Int32) : Int32 := if noR name 5 = true then 1 else if inB thr 1 400 = true then 0 else 1
def mcBuild (A : Nat → Nat → Int32) (S : Nat → Int32) (name inputs : Int32) (nb : Nat) : Int32 := if noR name 5 = true then 1 else if inB inputs 0 (((1 : Int32) <<< (S 1 &&& 31)) - 1) = true then (if anyF (arP A inputs) nb = true then 2 else if S 1 = 24 then 3 else 0) else 1
def mcUses (b o : Int32) (nb : Nat) : Int32 := if inR b nb = true then (if inR o nb = true then 0 else 1) else 1
def mcR (x : Int32) (n : Nat) : Int32 := if noR x n = true then 1 else 0
def mnX (A : Nat → Nat → Int32) (S : Nat → Int32) (name : Int32) (nk nb : Nat) : Int32 := grF (A 6) name (twF A S (-1) nk nb &&& (rmF A nb ^^^ (-1))) nb
def mcNewest (A : Nat → Nat → Int32) (S : Nat → Int32) (name : Int32) (nk nb : Nat) : Int32 := if noR name 5 = true then 1 else if 0 ≤ mnX A S name nk nb then 0 else 2
def mcAttest (A : Nat → Nat → Int32) (S : Nat → Int32) (b key : Int32) (nk nb : Nat) : Int32 := if inR b nb = true then (if inR key nk = true then (if liveM A S (ix key) = true then (if (A 10 (ix b) >>> (key &&& 31)) &&& 1 = 1 then 2 else if gnB A (ix b) = true then 3 else 0) else 2) else 1) else 1
def mcVouch (b sg : Int32) (nb : Nat) : Int32 := if noR b nb = true then 1 else if inR sg 4 = true then 0 else 2
def mcMarks (A : Nat → Nat → Int32) (b isM : Int32) (nb : Nat) : Int32 := if noR b nb = true then 1 else if A 11 (ix b) = isM then 2 else 0
def mkA (A : Nat → Nat → Int32) (b isM : Int32) : Nat → Nat → Int32 := uA A 11 (upd (A 11) (ix b) isM)
def mcRebuild (A : Nat → Nat → Int32) (b : Int32) (nb : Nat) : Int32 := if noR b nb = true then 1 else if A 12 (ix b) = 99 then 2 else 0
def mrbA (A : Nat → Nat → Int32) (b r : Int32) : Nat → Nat → Int32 := if A 9 (ix b) = r then uA (uA A 12 (upd (A 12) (ix b) (A 12 (ix b) + 1))) 13 (upd (A 13) (ix b) (A 13 (ix b) + 1)) else uA (uA A 12 (upd (A 12) (ix b) (A 12 (ix b) + 1))) 13 (upd (A 13) (ix b) (A 13 (ix b) + 0))
def mcShare (A : Nat → Nat → Int32) (b : Int32) (nb : Nat) : Int32 := if noR b nb = true then 1 else if A 12 (ix b) = 0 then 2 else 0
def mcAddMirror (S : Nat → Int32) : Int32 := if S 2 = 3 then 1 else 0
def mupA (A : Nat → Nat → Int32) (S : Nat → Int32) (x : Int32) (nb : Nat) : Nat → Nat → Int32 := uA (uA (uA A 14 (upd (A 14) (ix x) (((1 : Int32) <<< (S 1 &&& 31)) - 1))) 15 (upd (A 15) (ix x) (rmF A nb))) 16 (upd (A 16) (ix x) (S 4))
theorem gnB_14 (A : Nat → Nat → Int32) (f : Nat → Int32) : gnB (uA A 14 f) = gnB A := by
  funext j; simp only [gnB, show gnP (uA A 14 f) j = gnP A j from rfl, show uA A 14 f 11 = A 11 from rfl]
theorem rmF_14 (A : Nat → Nat → Int32) (f : Nat → Int32) : ∀ k, rmF (uA A 14 f) k = rmF A k
  | 0 => rfl
  | k + 1 => by simp only [rmF, rmF_14 A f k, gnB_14]
def mcSetExpiry (d : Int32) : Int32 := if inB d 0 99 = true then 0 else 1
def miX (A : Nat → Nat → Int32) (S : Nat → Int32) (x name : Int32) (nk nb : Nat) : Int32 := grF (A 6) name (A 14 (ix x) &&& (A 15 (ix x) ^^^ (-1)) &&& twF A S (-1) nk nb) nb
def mcInstall (A : Nat → Nat → Int32) (S : Nat → Int32) (x name : Int32) (nk nb nm : Nat) : Int32 := if noR x nm = true then 1 else if noR name 5 = true then 2 else if oldB A S (ix x) = true then 3 else if 0 ≤ miX A S x name nk nb then 0 else 4
def mcPass (S : Nat → Int32) (d : Int32) : Int32 := if inB d 1 60 = true then (if 999 < S 4 + d then 1 else 0) else 1
/-- the versions and sources of a build that is made, with the first k builds seen -/
def mvF (f : Nat → Int32) (name : Int32) : Nat → Int32
  | 0 => 1
  | k + 1 => if f k = name then mvF f name k + 1 else mvF f name k
def muF (g : Nat → Int32) (x : Int32) : Nat → Int32
  | 0 => x
  | k + 1 => if (x >>> (nI k &&& 31)) &&& 1 = 1 then muF g x k ||| g k else muF g x k

set_option maxHeartbeats 4000000 in
set_option maxRecDepth 100000 in
theorem c_X4_addKey (l : Launch) (D : va_G) (cy : Nat → ClassId) (h0 : Nat) (q : Nat → Nat) (A : Nat → Nat → Int32) (S : Nat → Int32) (signer : Int32) (first : Int32) (last : Int32) (nk : Nat) (hnk : nk ≤ 8) (hck : S 0 = nI nk) : Met l yX4_addKey wsX4_addKey (rmO 2 22) (va_Pc [.ref (q 0), .int signer, .int first, .int last] (pI D cy h0 (wM cy q A S))) (rwI (if mcAddKey S signer first last = 0 then S 0 else 0) D cy h0 (wM cy q (if mcAddKey S signer first last = 0 then uA (uA (uA A 2 (upd (A 2) nk signer)) 3 (upd (A 3) nk first)) 4 (upd (A 4) nk last) else A) (if mcAddKey S signer first last = 0 then uS (uS S 5 0) 0 (S 0 + 1) else uS S 5 (mcAddKey S signer first last))) (qA 18 q)) 0 0 (qA 18 q) := by
  refine Met.ofW (cc := cX4_addKey) (maxL := 4) (ret := (some .int)) (by decide) rfl ?_
  intro p e s m args below meth c s₁ B hml hv
  obtain ⟨rfl, hI⟩ := hv
  have hx := B.exec
  have hb := B.bytes
  have hr := B.returns
  have hts := atoms_spec (ws := wsX4_addKey) B.pre
  have hown : s.vm.findClass RX4 = some m.cls := findClass_of_methodNamed B.named
  have hlk := B.notSynchronized
  have hI : IH D cy h0 (wM cy q A S) s s.heap := hI
  have hG := hI.1
  have hqA := hA_M hI
  have hh0 : h0 ≤ s.heap.size := hI.1.2.2.2
  have hS : va_S nof s.heap s.heap [] := va_S.rf
  have hi4 : ∀ w ∈ wsX40, w ∈ wsX4_addKey := by decide +kernel
  have hl := lv_entry ([.ref (q 0), .int signer, .int first, .int last]) (n := 4) (Nat.le_of_ble_eq_true rfl)
  rw [lg_entry_eq]
  generalize (lg_sl ([.ref (q 0), .int signer, .int first, .int last]) ++ List.replicate (4 - (lg_sl ([.ref (q 0), .int signer, .int first, .int last])).length) Slot.unset).toArray = ls at hl ⊢
  have hl : lv_has ls 4 [(0, .ref (q 0)), (1, .int signer), (2, .int first), (3, .int last)] := hl
  refine lv_aload_n hx hb dX4_addKey_0 rfl (lv_at hl 0 rfl) ?_
  refine lv_iload_n hx hb dX4_addKey_1 rfl (lv_at hl 1 rfl) ?_
  refine lv_iconst (v := 0) hx hb dX4_addKey_2 (by decide) ?_
  refine lv_iconst (v := 3) hx hb dX4_addKey_3 (by decide) ?_
  refine ro_i (va_runS (As := [.int signer, .int 0, .int 3]) (rest := [.ref (q 0)]) ⟨hx, hb, hml, hown, hts⟩ (c_X4_in l signer 0 3) (va_cwS 3 hts gX4_addKey_X4_in rfl rfl rfl (by decide +kernel) ⟨Nat.le_of_ble_eq_true rfl, Nat.le_of_ble_eq_true rfl⟩) preT rfl rfl hl.1 rfl (lv_room (Nat.le_of_ble_eq_true rfl)) dX4_addKey_4 ⟨Nat.le_of_ble_eq_true rfl, Nat.le_of_ble_eq_true rfl⟩) hI hS (fun H locs hI hS => ?_)
  rw [show (bI (inB signer 0 3)) = bI (inR signer 4) from (congrArg bI (inB_3 _))]
  refine r_ifeq_b (tgt := 30) hx hb dX4_addKey_7 (by decide) (fun c7_1 => ?_) (fun c7_1 => ?_)
  · refine lv_iconst (v := 1) hx hb dX4_addKey_30 (by decide) ?_
    refine lv_goto (tgt := 48) hx hb dX4_addKey_31 (by decide) ?_
    have hS := hS.mono (B := qA 18 q) (fun _ h => h.elim)
    refine rw_i (w' := wM cy q A (uS S 5 1)) (va_runV (As := [.int 1]) (rest := []) ⟨hx, hb, hml, hown, hts⟩ (c_X4_fails l D cy h0 q A S 1) (cwV 1 hts gX4_addKey_X4_fails rfl rfl rfl (by decide +kernel) ⟨Nat.le_of_ble_eq_true rfl, Nat.le_of_ble_eq_true rfl⟩) (hI.preV (k0 := 0) rfl rfl) rfl rfl hl.1 rfl (lv_room (Nat.le_of_ble_eq_true rfl)) dX4_addKey_48 ⟨Nat.le_of_ble_eq_true rfl, Nat.le_of_ble_eq_true rfl⟩) hI hS (fun _ h => h) hqA (fun H locs hI hS => ?_)
    rw [show (bI (failsB 1)) = 1 from (by decide)]
    refine lv_if_eq (tgt := 56) hx hb dX4_addKey_51 (by decide) (fun c51_2 => ?_) (fun c51_2 => ?_)
    · exact absurd c51_2 (by decide)
    refine lv_iconst (v := 0) hx hb dX4_addKey_54 (by decide) ?_
    rw [show wM cy q A (uS S 5 1) = wM cy q (if mcAddKey S signer first last = 0 then uA (uA (uA A 2 (upd (A 2) nk signer)) 3 (upd (A 3) nk first)) 4 (upd (A 4) nk last) else A) (if mcAddKey S signer first last = 0 then uS (uS S 5 0) 0 (S 0 + 1) else uS S 5 (mcAddKey S signer first last)) from (wM_A (by first | rfl | (simp only [sub1, mcAddKey, bI, c7_1,  ↓reduceIte, Bool.false_eq_true, reduceCtorEq, i10, i20, i30, i40]; done) | simp [sub1, mcAddKey, bI, c7_1, ]) (by first | rfl | (simp only [sub1, mcAddKey, bI, c7_1,  ↓reduceIte, Bool.false_eq_true, reduceCtorEq, i10, i20, i30, i40]; done) | simp [sub1, mcAddKey, bI, c7_1, ]))] at hI
    exact end_rwi hx hb hr (by first | (simp only [sub1, mcAddKey, bI, c7_1,  ↓reduceIte, Bool.false_eq_true, reduceCtorEq, i10, i20, i30, i40]; done) | simp [sub1, mcAddKey, bI, c7_1, ]) hI hS dX4_addKey_55 hlk
  · obtain ⟨hj_signer, hk_signer⟩ := inR_c (by omega) c7_1
    refine lv_iload_n hx hb dX4_addKey_10 rfl (lv_at hl 2 rfl) ?_
    refine lv_aload_n hx hb dX4_addKey_11 rfl (lv_at hl 0 rfl) ?_
    refine r_get (C := RX4) (T := TX4) (N := 23) (k := 21) (q0 := 0) (v := .int (S 4)) hx hb hts hi4 hown hI rfl rfl (by decide) (hts (.fieldLink RX4 86 "BuildlotsModel" "day" "I") (List.mem_of_getElem? (i := 1) rfl)) rfl rfl dX4_addKey_12 ?_
    refine lv_icmp_lt (tgt := 30) hx hb dX4_addKey_15 (by decide) (fun c15_3 => ?_) (fun c15_3 => ?_)
    · refine lv_iconst (v := 1) hx hb dX4_addKey_30 (by decide) ?_
      refine lv_goto (tgt := 48) hx hb dX4_addKey_31 (by decide) ?_
      have hS := hS.mono (B := qA 18 q) (fun _ h => h.elim)
      refine rw_i (w' := wM cy q A (uS S 5 1)) (va_runV (As := [.int 1]) (rest := []) ⟨hx, hb, hml, hown, hts⟩ (c_X4_fails l D cy h0 q A S 1) (cwV 1 hts gX4_addKey_X4_fails rfl rfl rfl (by decide +kernel) ⟨Nat.le_of_ble_eq_true rfl, Nat.le_of_ble_eq_true rfl⟩) (hI.preV (k0 := 0) rfl rfl) rfl rfl hl.1 rfl (lv_room (Nat.le_of_ble_eq_true rfl)) dX4_addKey_48 ⟨Nat.le_of_ble_eq_true rfl, Nat.le_of_ble_eq_true rfl⟩) hI hS (fun _ h => h) hqA (fun H locs hI hS => ?_)
      rw [show (bI (failsB 1)) = 1 from (by decide)]
      refine lv_if_eq (tgt := 56) hx hb dX4_addKey_51 (by decide) (fun c51_4 => ?_) (fun c51_4 => ?_)
      · exact absurd c51_4 (by decide)
      refine lv_iconst (v := 0) hx hb dX4_addKey_54 (by decide) ?_
      rw [show wM cy q A (uS S 5 1) = wM cy q (if mcAddKey S signer first last = 0 then uA (uA (uA A 2 (upd (A 2) nk signer)) 3 (upd (A 3) nk first)) 4 (upd (A 4) nk last) else A) (if mcAddKey S signer first last = 0 then uS (uS S 5 0) 0 (S 0 + 1) else uS S 5 (mcAddKey S signer first last)) from (wM_A (by first | rfl | (simp only [sub1, mcAddKey, bI, c7_1, c15_3,  ↓reduceIte, Bool.false_eq_true, reduceCtorEq, i10, i20, i30, i40]; done) | simp [sub1, mcAddKey, bI, c7_1, c15_3, ]) (by first | rfl | (simp only [sub1, mcAddKey, bI, c7_1, c15_3,  ↓reduceIte, Bool.false_eq_true, reduceCtorEq, i10, i20, i30, i40]; done) | simp [sub1, mcAddKey, bI, c7_1, c15_3, ]))] at hI
      exact end_rwi hx hb hr (by first | (simp only [sub1, mcAddKey, bI, c7_1, c15_3,  ↓reduceIte, Bool.false_eq_true, reduceCtorEq, i10, i20, i30, i40]; done) | simp [sub1, mcAddKey, bI, c7_1, c15_3, ]) hI hS dX4_addKey_55 hlk
    · refine lv_iload_n hx hb dX4_addKey_18 rfl (lv_at hl 3 rfl) ?_
      refine lv_iload_n hx hb dX4_addKey_19 rfl (lv_at hl 2 rfl) ?_
      refine lv_icmp_lt (tgt := 30) hx hb dX4_addKey_20 (by decide) (fun c20_5 => ?_) (fun c20_5 => ?_)
      · refine lv_iconst (v := 1) hx hb dX4_addKey_30 (by decide) ?_
        refine lv_goto (tgt := 48) hx hb dX4_addKey_31 (by decide) ?_
        have hS := hS.mono (B := qA 18 q) (fun _ h => h.elim)
        refine rw_i (w' := wM cy q A (uS S 5 1)) (va_runV (As := [.int 1]) (rest := []) ⟨hx, hb, hml, hown, hts⟩ (c_X4_fails l D cy h0 q A S 1) (cwV 1 hts gX4_addKey_X4_fails rfl rfl rfl (by decide +kernel) ⟨Nat.le_of_ble_eq_true rfl, Nat.le_of_ble_eq_true rfl⟩) (hI.preV (k0 := 0) rfl rfl) rfl rfl hl.1 rfl (lv_room (Nat.le_of_ble_eq_true rfl)) dX4_addKey_48 ⟨Nat.le_of_ble_eq_true rfl, Nat.le_of_ble_eq_true rfl⟩) hI hS (fun _ h => h) hqA (fun H locs hI hS => ?_)
        rw [show (bI (failsB 1)) = 1 from (by decide)]
        refine lv_if_eq (tgt := 56) hx hb dX4_addKey_51 (by decide) (fun c51_6 => ?_) (fun c51_6 => ?_)
        · exact absurd c51_6 (by decide)
        refine lv_iconst (v := 0) hx hb dX4_addKey_54 (by decide) ?_
        rw [show wM cy q A (uS S 5 1) = wM cy q (if mcAddKey S signer first last = 0 then uA (uA (uA A 2 (upd (A 2) nk signer)) 3 (upd (A 3) nk first)) 4 (upd (A 4) nk last) else A) (if mcAddKey S signer first last = 0 then uS (uS S 5 0) 0 (S 0 + 1) else uS S 5 (mcAddKey S signer first last)) from (wM_A (by first | rfl | (simp only [sub1, mcAddKey, bI, c7_1, c15_3, c20_5,  ↓reduceIte, Bool.false_eq_true, reduceCtorEq, i10, i20, i30, i40]; done) | simp [sub1, mcAddKey, bI, c7_1, c15_3, c20_5, ]) (by first | rfl | (simp only [sub1, mcAddKey, bI, c7_1, c15_3, c20_5,  ↓reduceIte, Bool.false_eq_true, reduceCtorEq, i10, i20, i30, i40]; done) | simp [sub1, mcAddKey, bI, c7_1, c15_3, c20_5, ]))] at hI
        exact end_rwi hx hb hr (by first | (simp only [sub1, mcAddKey, bI, c7_1, c15_3, c20_5,  ↓reduceIte, Bool.false_eq_true, reduceCtorEq, i10, i20, i30, i40]; done) | simp [sub1, mcAddKey, bI, c7_1, c15_3, c20_5, ]) hI hS dX4_addKey_55 hlk
      · refine lv_iload_n hx hb dX4_addKey_23 rfl (lv_at hl 3 rfl) ?_
        refine lv_sipush (v := 999) hx hb dX4_addKey_24 (by decide) ?_
        refine lv_icmp_le (tgt := 34) hx hb dX4_addKey_27 (by decide) (fun c27_7 => ?_) (fun c27_7 => ?_)
        · refine lv_aload_n hx hb dX4_addKey_34 rfl (lv_at hl 0 rfl) ?_
          refine r_get (C := RX4) (T := TX4) (N := 23) (k := 2) (q0 := 0) (v := .int (S 0)) hx hb hts hi4 hown hI rfl rfl (by decide) (hts (.fieldLink RX4 69 "BuildlotsModel" "keys" "I") (List.mem_of_getElem? (i := 2) rfl)) rfl rfl dX4_addKey_35 ?_
          refine lv_bipush (v := 8) hx hb dX4_addKey_38 (by decide) ?_
          refine lv_icmp_ne (tgt := 47) hx hb dX4_addKey_40 (by decide) (fun c40_8 => ?_) (fun c40_8 => ?_)
          · refine lv_iconst (v := 0) hx hb dX4_addKey_47 (by decide) ?_
            have hS := hS.mono (B := qA 18 q) (fun _ h => h.elim)
            refine rw_i (w' := wM cy q A (uS S 5 0)) (va_runV (As := [.int 0]) (rest := []) ⟨hx, hb, hml, hown, hts⟩ (c_X4_fails l D cy h0 q A S 0) (cwV 1 hts gX4_addKey_X4_fails rfl rfl rfl (by decide +kernel) ⟨Nat.le_of_ble_eq_true rfl, Nat.le_of_ble_eq_true rfl⟩) (hI.preV (k0 := 0) rfl rfl) rfl rfl hl.1 rfl (lv_room (Nat.le_of_ble_eq_true rfl)) dX4_addKey_48 ⟨Nat.le_of_ble_eq_true rfl, Nat.le_of_ble_eq_true rfl⟩) hI hS (fun _ h => h) hqA (fun H locs hI hS => ?_)
            rw [show (bI (failsB 0)) = 0 from (by decide)]
            refine lv_if_eq (tgt := 56) hx hb dX4_addKey_51 (by decide) (fun c51_9 => ?_) (fun c51_9 => ?_)
            rotate_left
            · exact absurd c51_9 (by decide)
            have hlt : nk < 8 := ne_c hck hnk (by decide) (show (8 : Int32) = nI 8 from rfl) c40_8
            refine lv_aload_n hx hb dX4_addKey_56 rfl (lv_at hl 0 rfl) ?_
            refine r_get (C := RX4) (T := TX4) (N := 23) (k := 3) (q0 := 0) (v := .ref (q 3)) hx hb hts hi4 hown hI rfl rfl (by decide) (hts (.fieldLink RX4 16 "BuildlotsModel" "signers" "[I") (List.mem_of_getElem? (i := 3) rfl)) rfl rfl dX4_addKey_57 ?_
            refine lv_aload_n hx hb dX4_addKey_60 rfl (lv_at hl 0 rfl) ?_
            refine r_get (C := RX4) (T := TX4) (N := 23) (k := 2) (q0 := 0) (v := .int (S 0)) hx hb hts hi4 hown hI rfl rfl (by decide) (hts (.fieldLink RX4 69 "BuildlotsModel" "keys" "I") (List.mem_of_getElem? (i := 2) rfl)) rfl rfl dX4_addKey_61 ?_
            refine lv_iload_n hx hb dX4_addKey_64 rfl (lv_at hl 1 rfl) ?_
            refine r_iast (w' := wM cy q (uA A 2 (upd (A 2) nk signer)) (uS S 5 0)) (q0 := 3) (j := nk) (n := 8) (f := (A 2)) hx hb hI hS hqA hh0 (qA_M hI) rfl hck hlt (by decide) dX4_addKey_65 rfl (fun H locs hI hS => ?_)
            refine lv_aload_n hx hb dX4_addKey_66 rfl (lv_at hl 0 rfl) ?_
            refine r_get (C := RX4) (T := TX4) (N := 23) (k := 4) (q0 := 0) (v := .ref (q 4)) hx hb hts hi4 hown hI rfl rfl (by decide) (hts (.fieldLink RX4 19 "BuildlotsModel" "firsts" "[I") (List.mem_of_getElem? (i := 4) rfl)) rfl rfl dX4_addKey_67 ?_
            refine lv_aload_n hx hb dX4_addKey_70 rfl (lv_at hl 0 rfl) ?_
            refine r_get (C := RX4) (T := TX4) (N := 23) (k := 2) (q0 := 0) (v := .int (S 0)) hx hb hts hi4 hown hI rfl rfl (by decide) (hts (.fieldLink RX4 69 "BuildlotsModel" "keys" "I") (List.mem_of_getElem? (i := 2) rfl)) rfl rfl dX4_addKey_71 ?_
            refine lv_iload_n hx hb dX4_addKey_74 rfl (lv_at hl 2 rfl) ?_
            refine r_iast (w' := wM cy q (uA (uA A 2 (upd (A 2) nk signer)) 3 (upd (A 3) nk first)) (uS S 5 0)) (q0 := 4) (j := nk) (n := 8) (f := (A 3)) hx hb hI hS hqA hh0 (qA_M hI) rfl hck hlt (by decide) dX4_addKey_75 rfl (fun H locs hI hS => ?_)
            refine lv_aload_n hx hb dX4_addKey_76 rfl (lv_at hl 0 rfl) ?_
            refine r_get (C := RX4) (T := TX4) (N := 23) (k := 5) (q0 := 0) (v := .ref (q 5)) hx hb hts hi4 hown hI rfl rfl (by decide) (hts (.fieldLink RX4 22 "BuildlotsModel" "lasts" "[I") (List.mem_of_getElem? (i := 5) rfl)) rfl rfl dX4_addKey_77 ?_
            refine lv_aload_n hx hb dX4_addKey_80 rfl (lv_at hl 0 rfl) ?_
            refine r_get (C := RX4) (T := TX4) (N := 23) (k := 2) (q0 := 0) (v := .int (S 0)) hx hb hts hi4 hown hI rfl rfl (by decide) (hts (.fieldLink RX4 69 "BuildlotsModel" "keys" "I") (List.mem_of_getElem? (i := 2) rfl)) rfl rfl dX4_addKey_81 ?_
            refine lv_iload_n hx hb dX4_addKey_84 rfl (lv_at hl 3 rfl) ?_
            refine r_iast (w' := wM cy q (uA (uA (uA A 2 (upd (A 2) nk signer)) 3 (upd (A 3) nk first)) 4 (upd (A 4) nk last)) (uS S 5 0)) (q0 := 5) (j := nk) (n := 8) (f := (A 4)) hx hb hI hS hqA hh0 (qA_M hI) rfl hck hlt (by decide) dX4_addKey_85 rfl (fun H locs hI hS => ?_)
            refine lv_aload_n hx hb dX4_addKey_86 rfl (lv_at hl 0 rfl) ?_
            refine lv_dup hx hb dX4_addKey_87 rfl ?_
            refine r_get (C := RX4) (T := TX4) (N := 23) (k := 2) (q0 := 0) (v := .int (S 0)) hx hb hts hi4 hown hI rfl rfl (by decide) (hts (.fieldLink RX4 69 "BuildlotsModel" "keys" "I") (List.mem_of_getElem? (i := 2) rfl)) rfl rfl dX4_addKey_88 ?_
            refine lv_iconst (v := 1) hx hb dX4_addKey_91 (by decide) ?_
            refine lv_iadd hx hb dX4_addKey_92 ?_
            refine r_put (w' := wM cy q (uA (uA (uA A 2 (upd (A 2) nk signer)) 3 (upd (A 3) nk first)) 4 (upd (A 4) nk last)) (uS (uS S 5 0) 0 ((S 0) + 1))) (C := RX4) (T := TX4) (N := 23) (k := 2) (q0 := 0) (ty := .int) (v := .int ((S 0) + 1)) hx hb hts hi4 tyX4_ok nmX4 hown hI hS hqA hh0 (qA_M hI) rfl rfl (by decide) (hts (.fieldLink RX4 69 "BuildlotsModel" "keys" "I") (List.mem_of_getElem? (i := 2) rfl)) rfl rfl (by decide +kernel) rfl rfl (Nat.le_of_ble_eq_true rfl) dX4_addKey_93 rfl (fun H locs hI hS => ?_)
            refine lv_aload_n hx hb dX4_addKey_96 rfl (lv_at hl 0 rfl) ?_
            refine r_get (C := RX4) (T := TX4) (N := 23) (k := 2) (q0 := 0) (v := .int ((S 0) + 1)) hx hb hts hi4 hown hI rfl rfl (by decide) (hts (.fieldLink RX4 69 "BuildlotsModel" "keys" "I") (List.mem_of_getElem? (i := 2) rfl)) rfl rfl dX4_addKey_97 ?_
            refine lv_iconst (v := 1) hx hb dX4_addKey_100 (by decide) ?_
            refine lv_isub hx hb dX4_addKey_101 ?_
            rw [show wM cy q (uA (uA (uA A 2 (upd (A 2) nk signer)) 3 (upd (A 3) nk first)) 4 (upd (A 4) nk last)) (uS (uS S 5 0) 0 ((S 0) + 1)) = wM cy q (if mcAddKey S signer first last = 0 then uA (uA (uA A 2 (upd (A 2) nk signer)) 3 (upd (A 3) nk first)) 4 (upd (A 4) nk last) else A) (if mcAddKey S signer first last = 0 then uS (uS S 5 0) 0 (S 0 + 1) else uS S 5 (mcAddKey S signer first last)) from (wM_A (by first | rfl | (simp only [sub1, mcAddKey, bI, c7_1, c15_3, c20_5, c27_7, c40_8,  ↓reduceIte, Bool.false_eq_true, reduceCtorEq, i10, i20, i30, i40]; done) | simp [sub1, mcAddKey, bI, c7_1, c15_3, c20_5, c27_7, c40_8, ]) (by first | rfl | (simp only [sub1, mcAddKey, bI, c7_1, c15_3, c20_5, c27_7, c40_8,  ↓reduceIte, Bool.false_eq_true, reduceCtorEq, i10, i20, i30, i40]; done) | simp [sub1, mcAddKey, bI, c7_1, c15_3, c20_5, c27_7, c40_8, ]))] at hI
            exact end_rwi hx hb hr (by first | (simp only [sub1, mcAddKey, bI, c7_1, c15_3, c20_5, c27_7, c40_8,  ↓reduceIte, Bool.false_eq_true, reduceCtorEq, i10, i20, i30, i40]; done) | simp [sub1, mcAddKey, bI, c7_1, c15_3, c20_5, c27_7, c40_8, ]) hI hS dX4_addKey_102 hlk
          · refine lv_iconst (v := 2) hx hb dX4_addKey_43 (by decide) ?_
            refine lv_goto (tgt := 48) hx hb dX4_addKey_44 (by decide) ?_
            have hS := hS.mono (B := qA 18 q) (fun _ h => h.elim)
            refine rw_i (w' := wM cy q A (uS S 5 2)) (va_runV (As := [.int 2]) (rest := []) ⟨hx, hb, hml, hown, hts⟩ (c_X4_fails l D cy h0 q A S 2) (cwV 1 hts gX4_addKey_X4_fails rfl rfl rfl (by decide +kernel) ⟨Nat.le_of_ble_eq_true rfl, Nat.le_of_ble_eq_true rfl⟩) (hI.preV (k0 := 0) rfl rfl) rfl rfl hl.1 rfl (lv_room (Nat.le_of_ble_eq_true rfl)) dX4_addKey_48 ⟨Nat.le_of_ble_eq_true rfl, Nat.le_of_ble_eq_true rfl⟩) hI hS (fun _ h => h) hqA (fun H locs hI hS => ?_)
            rw [show (bI (failsB 2)) = 1 from (by decide)]
            refine lv_if_eq (tgt := 56) hx hb dX4_addKey_51 (by decide) (fun c51_10 => ?_) (fun c51_10 => ?_)
            · exact absurd c51_10 (by decide)
            refine lv_iconst (v := 0) hx hb dX4_addKey_54 (by decide) ?_
            rw [show wM cy q A (uS S 5 2) = wM cy q (if mcAddKey S signer first last = 0 then uA (uA (uA A 2 (upd (A 2) nk signer)) 3 (upd (A 3) nk first)) 4 (upd (A 4) nk last) else A) (if mcAddKey S signer first last = 0 then uS (uS S 5 0) 0 (S 0 + 1) else uS S 5 (mcAddKey S signer first last)) from (wM_A (by first | rfl | (simp only [sub1, mcAddKey, bI, c7_1, c15_3, c20_5, c27_7, c40_8,  ↓reduceIte, Bool.false_eq_true, reduceCtorEq, i10, i20, i30, i40]; done) | simp [sub1, mcAddKey, bI, c7_1, c15_3, c20_5, c27_7, c40_8, ]) (by first | rfl | (simp only [sub1, mcAddKey, bI, c7_1, c15_3, c20_5, c27_7, c40_8,  ↓reduceIte, Bool.false_eq_true, reduceCtorEq, i10, i20, i30, i40]; done) | simp [sub1, mcAddKey, bI, c7_1, c15_3, c20_5, c27_7, c40_8, ]))] at hI
            exact end_rwi hx hb hr (by first | (simp only [sub1, mcAddKey, bI, c7_1, c15_3, c20_5, c27_7, c40_8,  ↓reduceIte, Bool.false_eq_true, reduceCtorEq, i10, i20, i30, i40]; done) | simp [sub1, mcAddKey, bI, c7_1, c15_3, c20_5, c27_7, c40_8, ]) hI hS dX4_addKey_55 hlk
        · refine lv_iconst (v := 1) hx hb dX4_addKey_30 (by decide) ?_
          refine lv_goto (tgt := 48) hx hb dX4_addKey_31 (by decide) ?_
          have hS := hS.mono (B := qA 18 q) (fun _ h => h.elim)
          refine rw_i (w' := wM cy q A (uS S 5 1)) (va_runV (As := [.int 1]) (rest := []) ⟨hx, hb, hml, hown, hts⟩ (c_X4_fails l D cy h0 q A S 1) (cwV 1 hts gX4_addKey_X4_fails rfl rfl rfl (by decide +kernel) ⟨Nat.le_of_ble_eq_true rfl, Nat.le_of_ble_eq_true rfl⟩) (hI.preV (k0 := 0) rfl rfl) rfl rfl hl.1 rfl (lv_room (Nat.le_of_ble_eq_true rfl)) dX4_addKey_48 ⟨Nat.le_of_ble_eq_true rfl, Nat.le_of_ble_eq_true rfl⟩) hI hS (fun _ h => h) hqA (fun H locs hI hS => ?_)
          rw [show (bI (failsB 1)) = 1 from (by decide)]
          refine lv_if_eq (tgt := 56) hx hb dX4_addKey_51 (by decide) (fun c51_11 => ?_) (fun c51_11 => ?_)
          · exact absurd c51_11 (by decide)
          refine lv_iconst (v := 0) hx hb dX4_addKey_54 (by decide) ?_
          rw [show wM cy q A (uS S 5 1) = wM cy q (if mcAddKey S signer first last = 0 then uA (uA (uA A 2 (upd (A 2) nk signer)) 3 (upd (A 3) nk first)) 4 (upd (A 4) nk last) else A) (if mcAddKey S signer first last = 0 then uS (uS S 5 0) 0 (S 0 + 1) else uS S 5 (mcAddKey S signer first last)) from (wM_A (by first | rfl | (simp only [sub1, mcAddKey, bI, c7_1, c15_3, c20_5, c27_7,  ↓reduceIte, Bool.false_eq_true, reduceCtorEq, i10, i20, i30, i40]; done) | simp [sub1, mcAddKey, bI, c7_1, c15_3, c20_5, c27_7, ]) (by first | rfl | (simp only [sub1, mcAddKey, bI, c7_1, c15_3, c20_5, c27_7,  ↓reduceIte, Bool.false_eq_true, reduceCtorEq, i10, i20, i30, i40]; done) | simp [sub1, mcAddKey, bI, c7_1, c15_3, c20_5, c27_7, ]))] at hI
          exact end_rwi hx hb hr (by first | (simp only [sub1, mcAddKey, bI, c7_1, c15_3, c20_5, c27_7,  ↓reduceIte, Bool.false_eq_true, reduceCtorEq, i10, i20, i30, i40]; done) | simp [sub1, mcAddKey, bI, c7_1, c15_3, c20_5, c27_7, ]) hI hS dX4_addKey_55 hlk

set_option maxHeartbeats 4000000 in
set_option maxRecDepth 100000 in
theorem c_X4_loseKey (l : Launch) (D : va_G) (cy : Nat → ClassId) (h0 : Nat) (q : Nat → Nat) (A : Nat → Nat → Int32) (S : Nat → Int32) (key : Int32) (nk : Nat) (hnk : nk ≤ 8) (hck : S 0 = nI nk) (nb : Nat) (hnb : nb ≤ 24) (hcb : S 1 = nI nb) (htn : ∀ b, b < nb → ∃ t, t < 5 ∧ A 6 b = nI t) : Met l yX4_loseKey wsX4_loseKey (rmO 8 156) (va_Pc [.ref (q 0), .int key] (pI D cy h0 (wM cy q A S))) (rwI (if mcLoseKey A key nk = 0 then btF (twF A S (-1) nk nb &&& (twF (uA A 5 (upd (A 5) (ix key) 1)) S (-1) nk nb ^^^ (-1))) 24 else 0) D cy h0 (wM cy q (if mcLoseKey A key nk = 0 then uA A 5 (upd (A 5) (ix key) 1) else A) (uS S 5 (mcLoseKey A key nk))) (qA 18 q)) 0 0 (qA 18 q) := by
  refine Met.ofW (cc := cX4_loseKey) (maxL := 3) (ret := (some .int)) (by decide) rfl ?_
  intro p e s m args below meth c s₁ B hml hv
  obtain ⟨rfl, hI⟩ := hv
  have hx := B.exec
  have hb := B.bytes
  have hr := B.returns
  have hts := atoms_spec (ws := wsX4_loseKey) B.pre
  have hown : s.vm.findClass RX4 = some m.cls := findClass_of_methodNamed B.named
  have hlk := B.notSynchronized
  have hI : IH D cy h0 (wM cy q A S) s s.heap := hI
  have hG := hI.1
  have hqA := hA_M hI
  have hh0 : h0 ≤ s.heap.size := hI.1.2.2.2
  have hS : va_S nof s.heap s.heap [] := va_S.rf
  have hi4 : ∀ w ∈ wsX40, w ∈ wsX4_loseKey := by decide +kernel
  have hl := lv_entry ([.ref (q 0), .int key]) (n := 3) (Nat.le_of_ble_eq_true rfl)
  rw [lg_entry_eq]
  generalize (lg_sl ([.ref (q 0), .int key]) ++ List.replicate (3 - (lg_sl ([.ref (q 0), .int key])).length) Slot.unset).toArray = ls at hl ⊢
  have hl : lv_has ls 3 [(0, .ref (q 0)), (1, .int key)] := hl
  refine lv_aload_n hx hb dX4_loseKey_0 rfl (lv_at hl 0 rfl) ?_
  refine lv_iload_n hx hb dX4_loseKey_1 rfl (lv_at hl 1 rfl) ?_
  have hS := hS.mono (B := qA 18 q) (fun _ h => h.elim)
  refine rw_i (w' := wM cy q A (uS S 5 (bI (noR key nk)))) (va_runV (As := [.int key]) (rest := []) ⟨hx, hb, hml, hown, hts⟩ (c_X4_isNoKey l D cy h0 q A S key nk hnk hck) (cwV 1 hts gX4_loseKey_X4_isNoKey rfl rfl rfl (by decide +kernel) ⟨Nat.le_of_ble_eq_true rfl, Nat.le_of_ble_eq_true rfl⟩) (hI.preV (k0 := 0) rfl rfl) rfl rfl hl.1 rfl (lv_room (Nat.le_of_ble_eq_true rfl)) dX4_loseKey_2 ⟨Nat.le_of_ble_eq_true rfl, Nat.le_of_ble_eq_true rfl⟩) hI hS (fun _ h => h) hqA (fun H locs hI hS => ?_)
  refine r_ifne_b (tgt := 29) hx hb dX4_loseKey_5 (by decide) (fun c5_1 => ?_) (fun c5_1 => ?_)
  · refine lv_iconst (v := 0) hx hb dX4_loseKey_29 (by decide) ?_
    rw [show wM cy q A (uS S 5 (bI (noR key nk))) = wM cy q (if mcLoseKey A key nk = 0 then uA A 5 (upd (A 5) (ix key) 1) else A) (uS S 5 (mcLoseKey A key nk)) from (wM_A (by first | rfl | (simp only [mcLoseKey, bI, c5_1,  ↓reduceIte, Bool.false_eq_true, reduceCtorEq, i10, i20, i30, i40]; done) | simp [mcLoseKey, bI, c5_1, ]) (by first | rfl | (simp only [mcLoseKey, bI, c5_1,  ↓reduceIte, Bool.false_eq_true, reduceCtorEq, i10, i20, i30, i40]; done) | simp [mcLoseKey, bI, c5_1, ]))] at hI
    exact end_rwi hx hb hr (by first | (simp only [mcLoseKey, bI, c5_1,  ↓reduceIte, Bool.false_eq_true, reduceCtorEq, i10, i20, i30, i40]; done) | simp [mcLoseKey, bI, c5_1, ]) hI hS dX4_loseKey_30 hlk
  · obtain ⟨hj_key, hk_key⟩ := noR_c (by omega) c5_1
    refine lv_aload_n hx hb dX4_loseKey_8 rfl (lv_at hl 0 rfl) ?_
    refine lv_aload_n hx hb dX4_loseKey_9 rfl (lv_at hl 0 rfl) ?_
    refine r_get (C := RX4) (T := TX4) (N := 23) (k := 6) (q0 := 0) (v := .ref (q 6)) hx hb hts hi4 hown hI rfl rfl (by decide) (hts (.fieldLink RX4 25 "BuildlotsModel" "areLost" "[Z") (List.mem_of_getElem? (i := 1) rfl)) rfl rfl dX4_loseKey_10 ?_
    refine lv_iload_n hx hb dX4_loseKey_13 rfl (lv_at hl 1 rfl) ?_
    refine r_zald (q0 := 6) (j := (ix key)) (n := 8) (f := (A 5)) hx hb hI rfl hk_key (by omega) (by decide) dX4_loseKey_14 ?_
    refine lv_if_eq (tgt := 22) hx hb dX4_loseKey_15 (by decide) (fun c15_2 => ?_) (fun c15_2 => ?_)
    · refine lv_iconst (v := 0) hx hb dX4_loseKey_22 (by decide) ?_
      refine rw_i (w' := wM cy q A (uS (uS S 5 (bI (noR key nk))) 5 0)) (va_runV (As := [.int 0]) (rest := []) ⟨hx, hb, hml, hown, hts⟩ (c_X4_fails l D cy h0 q A (uS S 5 (bI (noR key nk))) 0) (cwV 1 hts gX4_loseKey_X4_fails rfl rfl rfl (by decide +kernel) ⟨Nat.le_of_ble_eq_true rfl, Nat.le_of_ble_eq_true rfl⟩) (hI.preV (k0 := 0) rfl rfl) rfl rfl hl.1 rfl (lv_room (Nat.le_of_ble_eq_true rfl)) dX4_loseKey_23 ⟨Nat.le_of_ble_eq_true rfl, Nat.le_of_ble_eq_true rfl⟩) hI hS (fun _ h => h) hqA (fun H locs hI hS => ?_)
      rw [uS_uS] at hI
      rw [show (bI (failsB 0)) = 0 from (by decide)]
      refine lv_if_eq (tgt := 31) hx hb dX4_loseKey_26 (by decide) (fun c26_3 => ?_) (fun c26_3 => ?_)
      rotate_left
      · exact absurd c26_3 (by decide)
      refine lv_aload_n hx hb dX4_loseKey_31 rfl (lv_at hl 0 rfl) ?_
      refine ro_i (va_runV (As := []) (rest := []) ⟨hx, hb, hml, hown, hts⟩ (c_X4_trusted l D cy h0 q A (uS S 5 0) nk hnk hck nb hnb hcb htn) (cwV 0 hts gX4_loseKey_X4_trusted rfl rfl rfl (by decide +kernel) ⟨Nat.le_of_ble_eq_true rfl, Nat.le_of_ble_eq_true rfl⟩) (hI.preV (k0 := 0) rfl rfl) rfl rfl hl.1 rfl (lv_room (Nat.le_of_ble_eq_true rfl)) dX4_loseKey_32 ⟨Nat.le_of_ble_eq_true rfl, Nat.le_of_ble_eq_true rfl⟩) hI hS (fun H locs hI hS => ?_)
      rw [twF_5]
      refine lv_istore_n (lv' := [(2, .int (twF A S (-1) nk nb)), (0, .ref (q 0)), (1, .int key)]) hx hb dX4_loseKey_35 rfl hl (by decide) rfl (fun ls hl => ?_)
      refine lv_aload_n hx hb dX4_loseKey_36 rfl (lv_at hl 1 rfl) ?_
      refine r_get (C := RX4) (T := TX4) (N := 23) (k := 6) (q0 := 0) (v := .ref (q 6)) hx hb hts hi4 hown hI rfl rfl (by decide) (hts (.fieldLink RX4 25 "BuildlotsModel" "areLost" "[Z") (List.mem_of_getElem? (i := 1) rfl)) rfl rfl dX4_loseKey_37 ?_
      refine lv_iload_n hx hb dX4_loseKey_40 rfl (lv_at hl 2 rfl) ?_
      refine lv_iconst (v := 1) hx hb dX4_loseKey_41 (by decide) ?_
      refine r_zast (w' := wM cy q (uA A 5 (upd (A 5) (ix key) 1)) (uS S 5 0)) (q0 := 6) (j := (ix key)) (n := 8) (f := (A 5)) hx hb hI hS hqA hh0 (qA_M hI) rfl hk_key (by omega) (by decide) rfl dX4_loseKey_42 rfl (fun H locs hI hS => ?_)
      refine lv_iload_n hx hb dX4_loseKey_43 rfl (lv_at hl 0 rfl) ?_
      refine lv_aload_n hx hb dX4_loseKey_44 rfl (lv_at hl 1 rfl) ?_
      refine ro_i (va_runV (As := []) (rest := [.int (twF A S (-1) nk nb)]) ⟨hx, hb, hml, hown, hts⟩ (c_X4_trusted l D cy h0 q (uA A 5 (upd (A 5) (ix key) 1)) (uS S 5 0) nk hnk hck nb hnb hcb htn) (cwV 0 hts gX4_loseKey_X4_trusted rfl rfl rfl (by decide +kernel) ⟨Nat.le_of_ble_eq_true rfl, Nat.le_of_ble_eq_true rfl⟩) (hI.preV (k0 := 0) rfl rfl) rfl rfl hl.1 rfl (lv_room (Nat.le_of_ble_eq_true rfl)) dX4_loseKey_45 ⟨Nat.le_of_ble_eq_true rfl, Nat.le_of_ble_eq_true rfl⟩) hI hS (fun H locs hI hS => ?_)
      rw [twF_5]
      refine lv_iconst (v := (-1)) hx hb dX4_loseKey_48 (by decide) ?_
      refine lv_ixor hx hb dX4_loseKey_49 ?_
      refine lv_iand hx hb dX4_loseKey_50 ?_
      refine ro_i (va_runS (As := [.int ((twF A S (-1) nk nb) &&& ((twF (uA A 5 (upd (A 5) (ix key) 1)) S (-1) nk nb) ^^^ (-1)))]) (rest := []) ⟨hx, hb, hml, hown, hts⟩ (c_X4_bits l ((twF A S (-1) nk nb) &&& ((twF (uA A 5 (upd (A 5) (ix key) 1)) S (-1) nk nb) ^^^ (-1)))) (va_cwS 1 hts gX4_loseKey_X4_bits rfl rfl rfl (by decide +kernel) ⟨Nat.le_of_ble_eq_true rfl, Nat.le_of_ble_eq_true rfl⟩) preT rfl rfl hl.1 rfl (lv_room (Nat.le_of_ble_eq_true rfl)) dX4_loseKey_51 ⟨Nat.le_of_ble_eq_true rfl, Nat.le_of_ble_eq_true rfl⟩) hI hS (fun H locs hI hS => ?_)
      rw [show wM cy q (uA A 5 (upd (A 5) (ix key) 1)) (uS S 5 0) = wM cy q (if mcLoseKey A key nk = 0 then uA A 5 (upd (A 5) (ix key) 1) else A) (uS S 5 (mcLoseKey A key nk)) from (wM_A (by first | rfl | (simp only [mcLoseKey, bI, c5_1, c15_2,  ↓reduceIte, Bool.false_eq_true, reduceCtorEq, i10, i20, i30, i40]; done) | simp [mcLoseKey, bI, c5_1, c15_2, ]) (by first | rfl | (simp only [mcLoseKey, bI, c5_1, c15_2,  ↓reduceIte, Bool.false_eq_true, reduceCtorEq, i10, i20, i30, i40]; done) | simp [mcLoseKey, bI, c5_1, c15_2, ]))] at hI
      exact end_rwi hx hb hr (by first | (simp only [mcLoseKey, bI, c5_1, c15_2,  ↓reduceIte, Bool.false_eq_true, reduceCtorEq, i10, i20, i30, i40]; done) | simp [mcLoseKey, bI, c5_1, c15_2, ]) hI hS dX4_loseKey_54 hlk
    · refine lv_iconst (v := 2) hx hb dX4_loseKey_18 (by decide) ?_
      refine lv_goto (tgt := 23) hx hb dX4_loseKey_19 (by decide) ?_
      refine rw_i (w' := wM cy q A (uS (uS S 5 (bI (noR key nk))) 5 2)) (va_runV (As := [.int 2]) (rest := []) ⟨hx, hb, hml, hown, hts⟩ (c_X4_fails l D cy h0 q A (uS S 5 (bI (noR key nk))) 2) (cwV 1 hts gX4_loseKey_X4_fails rfl rfl rfl (by decide +kernel) ⟨Nat.le_of_ble_eq_true rfl, Nat.le_of_ble_eq_true rfl⟩) (hI.preV (k0 := 0) rfl rfl) rfl rfl hl.1 rfl (lv_room (Nat.le_of_ble_eq_true rfl)) dX4_loseKey_23 ⟨Nat.le_of_ble_eq_true rfl, Nat.le_of_ble_eq_true rfl⟩) hI hS (fun _ h => h) hqA (fun H locs hI hS => ?_)
      rw [uS_uS] at hI
      rw [show (bI (failsB 2)) = 1 from (by decide)]
      refine lv_if_eq (tgt := 31) hx hb dX4_loseKey_26 (by decide) (fun c26_4 => ?_) (fun c26_4 => ?_)
      · exact absurd c26_4 (by decide)
      refine lv_iconst (v := 0) hx hb dX4_loseKey_29 (by decide) ?_
      rw [show wM cy q A (uS S 5 2) = wM cy q (if mcLoseKey A key nk = 0 then uA A 5 (upd (A 5) (ix key) 1) else A) (uS S 5 (mcLoseKey A key nk)) from (wM_A (by first | rfl | (simp only [mcLoseKey, bI, c5_1, c15_2,  ↓reduceIte, Bool.false_eq_true, reduceCtorEq, i10, i20, i30, i40]; done) | simp [mcLoseKey, bI, c5_1, c15_2, ]) (by first | rfl | (simp only [mcLoseKey, bI, c5_1, c15_2,  ↓reduceIte, Bool.false_eq_true, reduceCtorEq, i10, i20, i30, i40]; done) | simp [mcLoseKey, bI, c5_1, c15_2, ]))] at hI
      exact end_rwi hx hb hr (by first | (simp only [mcLoseKey, bI, c5_1, c15_2,  ↓reduceIte, Bool.false_eq_true, reduceCtorEq, i10, i20, i30, i40]; done) | simp [mcLoseKey, bI, c5_1, c15_2, ]) hI hS dX4_loseKey_30 hlk

set_option maxHeartbeats 4000000 in
set_option maxRecDepth 100000 in
theorem c_X4_extendKey (l : Launch) (D : va_G) (cy : Nat → ClassId) (h0 : Nat) (q : Nat → Nat) (A : Nat → Nat → Int32) (S : Nat → Int32) (key : Int32) (last : Int32) (nk : Nat) (hnk : nk ≤ 8) (hck : S 0 = nI nk) : Met l yX4_extendKey wsX4_extendKey (rmO 3 43) (va_Pc [.ref (q 0), .int key, .int last] (pI D cy h0 (wM cy q A S))) (rwI (if mcExtendKey A S key last nk = 0 then A 4 (ix key) else 0) D cy h0 (wM cy q (if mcExtendKey A S key last nk = 0 then uA A 4 (upd (A 4) (ix key) last) else A) (uS S 5 (mcExtendKey A S key last nk))) (qA 18 q)) 0 0 (qA 18 q) := by
  refine Met.ofW (cc := cX4_extendKey) (maxL := 4) (ret := (some .int)) (by decide) rfl ?_
  intro p e s m args below meth c s₁ B hml hv
  obtain ⟨rfl, hI⟩ := hv
  have hx := B.exec
  have hb := B.bytes
  have hr := B.returns
  have hts := atoms_spec (ws := wsX4_extendKey) B.pre
  have hown : s.vm.findClass RX4 = some m.cls := findClass_of_methodNamed B.named
  have hlk := B.notSynchronized
  have hI : IH D cy h0 (wM cy q A S) s s.heap := hI
  have hG := hI.1
  have hqA := hA_M hI
  have hh0 : h0 ≤ s.heap.size := hI.1.2.2.2
  have hS : va_S nof s.heap s.heap [] := va_S.rf
  have hi4 : ∀ w ∈ wsX40, w ∈ wsX4_extendKey := by decide +kernel
  have hl := lv_entry ([.ref (q 0), .int key, .int last]) (n := 4) (Nat.le_of_ble_eq_true rfl)
  rw [lg_entry_eq]
  generalize (lg_sl ([.ref (q 0), .int key, .int last]) ++ List.replicate (4 - (lg_sl ([.ref (q 0), .int key, .int last])).length) Slot.unset).toArray = ls at hl ⊢
  have hl : lv_has ls 4 [(0, .ref (q 0)), (1, .int key), (2, .int last)] := hl
  refine lv_aload_n hx hb dX4_extendKey_0 rfl (lv_at hl 0 rfl) ?_
  refine lv_iload_n hx hb dX4_extendKey_1 rfl (lv_at hl 1 rfl) ?_
  have hS := hS.mono (B := qA 18 q) (fun _ h => h.elim)
  refine rw_i (w' := wM cy q A (uS S 5 (bI (noR key nk)))) (va_runV (As := [.int key]) (rest := []) ⟨hx, hb, hml, hown, hts⟩ (c_X4_isNoKey l D cy h0 q A S key nk hnk hck) (cwV 1 hts gX4_extendKey_X4_isNoKey rfl rfl rfl (by decide +kernel) ⟨Nat.le_of_ble_eq_true rfl, Nat.le_of_ble_eq_true rfl⟩) (hI.preV (k0 := 0) rfl rfl) rfl rfl hl.1 rfl (lv_room (Nat.le_of_ble_eq_true rfl)) dX4_extendKey_2 ⟨Nat.le_of_ble_eq_true rfl, Nat.le_of_ble_eq_true rfl⟩) hI hS (fun _ h => h) hqA (fun H locs hI hS => ?_)
  refine r_ifne_b (tgt := 63) hx hb dX4_extendKey_5 (by decide) (fun c5_1 => ?_) (fun c5_1 => ?_)
  · refine lv_iconst (v := 0) hx hb dX4_extendKey_63 (by decide) ?_
    rw [show wM cy q A (uS S 5 (bI (noR key nk))) = wM cy q (if mcExtendKey A S key last nk = 0 then uA A 4 (upd (A 4) (ix key) last) else A) (uS S 5 (mcExtendKey A S key last nk)) from (wM_A (by first | rfl | (simp only [mcExtendKey, bI, c5_1,  ↓reduceIte, Bool.false_eq_true, reduceCtorEq, i10, i20, i30, i40]; done) | simp [mcExtendKey, bI, c5_1, ]) (by first | rfl | (simp only [mcExtendKey, bI, c5_1,  ↓reduceIte, Bool.false_eq_true, reduceCtorEq, i10, i20, i30, i40]; done) | simp [mcExtendKey, bI, c5_1, ]))] at hI
    exact end_rwi hx hb hr (by first | (simp only [mcExtendKey, bI, c5_1,  ↓reduceIte, Bool.false_eq_true, reduceCtorEq, i10, i20, i30, i40]; done) | simp [mcExtendKey, bI, c5_1, ]) hI hS dX4_extendKey_64 hlk
  · obtain ⟨hj_key, hk_key⟩ := noR_c (by omega) c5_1
    refine lv_aload_n hx hb dX4_extendKey_8 rfl (lv_at hl 0 rfl) ?_
    refine lv_iload_n hx hb dX4_extendKey_9 rfl (lv_at hl 2 rfl) ?_
    refine lv_aload_n hx hb dX4_extendKey_10 rfl (lv_at hl 0 rfl) ?_
    refine r_get (C := RX4) (T := TX4) (N := 23) (k := 5) (q0 := 0) (v := .ref (q 5)) hx hb hts hi4 hown hI rfl rfl (by decide) (hts (.fieldLink RX4 22 "BuildlotsModel" "lasts" "[I") (List.mem_of_getElem? (i := 1) rfl)) rfl rfl dX4_extendKey_11 ?_
    refine lv_iload_n hx hb dX4_extendKey_14 rfl (lv_at hl 1 rfl) ?_
    refine r_iald (q0 := 5) (j := (ix key)) (n := 8) (f := (A 4)) hx hb hI rfl hk_key (by omega) (by decide) dX4_extendKey_15 ?_
    refine lv_icmp_le (tgt := 26) hx hb dX4_extendKey_16 (by decide) (fun c16_2 => ?_) (fun c16_2 => ?_)
    · refine lv_iconst (v := 2) hx hb dX4_extendKey_26 (by decide) ?_
      refine lv_goto (tgt := 57) hx hb dX4_extendKey_27 (by decide) ?_
      refine rw_i (w' := wM cy q A (uS (uS S 5 (bI (noR key nk))) 5 2)) (va_runV (As := [.int 2]) (rest := []) ⟨hx, hb, hml, hown, hts⟩ (c_X4_fails l D cy h0 q A (uS S 5 (bI (noR key nk))) 2) (cwV 1 hts gX4_extendKey_X4_fails rfl rfl rfl (by decide +kernel) ⟨Nat.le_of_ble_eq_true rfl, Nat.le_of_ble_eq_true rfl⟩) (hI.preV (k0 := 0) rfl rfl) rfl rfl hl.1 rfl (lv_room (Nat.le_of_ble_eq_true rfl)) dX4_extendKey_57 ⟨Nat.le_of_ble_eq_true rfl, Nat.le_of_ble_eq_true rfl⟩) hI hS (fun _ h => h) hqA (fun H locs hI hS => ?_)
      rw [uS_uS] at hI
      rw [show (bI (failsB 2)) = 1 from (by decide)]
      refine lv_if_eq (tgt := 65) hx hb dX4_extendKey_60 (by decide) (fun c60_3 => ?_) (fun c60_3 => ?_)
      · exact absurd c60_3 (by decide)
      refine lv_iconst (v := 0) hx hb dX4_extendKey_63 (by decide) ?_
      rw [show wM cy q A (uS S 5 2) = wM cy q (if mcExtendKey A S key last nk = 0 then uA A 4 (upd (A 4) (ix key) last) else A) (uS S 5 (mcExtendKey A S key last nk)) from (wM_A (by first | rfl | (simp only [mcExtendKey, bI, c5_1, c16_2,  ↓reduceIte, Bool.false_eq_true, reduceCtorEq, i10, i20, i30, i40]; done) | simp [mcExtendKey, bI, c5_1, c16_2, ]) (by first | rfl | (simp only [mcExtendKey, bI, c5_1, c16_2,  ↓reduceIte, Bool.false_eq_true, reduceCtorEq, i10, i20, i30, i40]; done) | simp [mcExtendKey, bI, c5_1, c16_2, ]))] at hI
      exact end_rwi hx hb hr (by first | (simp only [mcExtendKey, bI, c5_1, c16_2,  ↓reduceIte, Bool.false_eq_true, reduceCtorEq, i10, i20, i30, i40]; done) | simp [mcExtendKey, bI, c5_1, c16_2, ]) hI hS dX4_extendKey_64 hlk
    · refine lv_iload_n hx hb dX4_extendKey_19 rfl (lv_at hl 2 rfl) ?_
      refine lv_sipush (v := 999) hx hb dX4_extendKey_20 (by decide) ?_
      refine lv_icmp_le (tgt := 30) hx hb dX4_extendKey_23 (by decide) (fun c23_4 => ?_) (fun c23_4 => ?_)
      · refine lv_aload_n hx hb dX4_extendKey_30 rfl (lv_at hl 0 rfl) ?_
        refine r_get (C := RX4) (T := TX4) (N := 23) (k := 6) (q0 := 0) (v := .ref (q 6)) hx hb hts hi4 hown hI rfl rfl (by decide) (hts (.fieldLink RX4 25 "BuildlotsModel" "areLost" "[Z") (List.mem_of_getElem? (i := 2) rfl)) rfl rfl dX4_extendKey_31 ?_
        refine lv_iload_n hx hb dX4_extendKey_34 rfl (lv_at hl 1 rfl) ?_
        refine r_zald (q0 := 6) (j := (ix key)) (n := 8) (f := (A 5)) hx hb hI rfl hk_key (by omega) (by decide) dX4_extendKey_35 ?_
        refine lv_if_ne (tgt := 52) hx hb dX4_extendKey_36 (by decide) (fun c36_5 => ?_) (fun c36_5 => ?_)
        · refine lv_iconst (v := 3) hx hb dX4_extendKey_52 (by decide) ?_
          refine lv_goto (tgt := 57) hx hb dX4_extendKey_53 (by decide) ?_
          refine rw_i (w' := wM cy q A (uS (uS S 5 (bI (noR key nk))) 5 3)) (va_runV (As := [.int 3]) (rest := []) ⟨hx, hb, hml, hown, hts⟩ (c_X4_fails l D cy h0 q A (uS S 5 (bI (noR key nk))) 3) (cwV 1 hts gX4_extendKey_X4_fails rfl rfl rfl (by decide +kernel) ⟨Nat.le_of_ble_eq_true rfl, Nat.le_of_ble_eq_true rfl⟩) (hI.preV (k0 := 0) rfl rfl) rfl rfl hl.1 rfl (lv_room (Nat.le_of_ble_eq_true rfl)) dX4_extendKey_57 ⟨Nat.le_of_ble_eq_true rfl, Nat.le_of_ble_eq_true rfl⟩) hI hS (fun _ h => h) hqA (fun H locs hI hS => ?_)
          rw [uS_uS] at hI
          rw [show (bI (failsB 3)) = 1 from (by decide)]
          refine lv_if_eq (tgt := 65) hx hb dX4_extendKey_60 (by decide) (fun c60_6 => ?_) (fun c60_6 => ?_)
          · exact absurd c60_6 (by decide)
          refine lv_iconst (v := 0) hx hb dX4_extendKey_63 (by decide) ?_
          rw [show wM cy q A (uS S 5 3) = wM cy q (if mcExtendKey A S key last nk = 0 then uA A 4 (upd (A 4) (ix key) last) else A) (uS S 5 (mcExtendKey A S key last nk)) from (wM_A (by first | rfl | (simp only [mcExtendKey, bI, c5_1, c16_2, c23_4, c36_5,  ↓reduceIte, Bool.false_eq_true, reduceCtorEq, i10, i20, i30, i40]; done) | simp [mcExtendKey, bI, c5_1, c16_2, c23_4, c36_5, ]) (by first | rfl | (simp only [mcExtendKey, bI, c5_1, c16_2, c23_4, c36_5,  ↓reduceIte, Bool.false_eq_true, reduceCtorEq, i10, i20, i30, i40]; done) | simp [mcExtendKey, bI, c5_1, c16_2, c23_4, c36_5, ]))] at hI
          exact end_rwi hx hb hr (by first | (simp only [mcExtendKey, bI, c5_1, c16_2, c23_4, c36_5,  ↓reduceIte, Bool.false_eq_true, reduceCtorEq, i10, i20, i30, i40]; done) | simp [mcExtendKey, bI, c5_1, c16_2, c23_4, c36_5, ]) hI hS dX4_extendKey_64 hlk
        · refine lv_aload_n hx hb dX4_extendKey_39 rfl (lv_at hl 0 rfl) ?_
          refine r_get (C := RX4) (T := TX4) (N := 23) (k := 5) (q0 := 0) (v := .ref (q 5)) hx hb hts hi4 hown hI rfl rfl (by decide) (hts (.fieldLink RX4 22 "BuildlotsModel" "lasts" "[I") (List.mem_of_getElem? (i := 1) rfl)) rfl rfl dX4_extendKey_40 ?_
          refine lv_iload_n hx hb dX4_extendKey_43 rfl (lv_at hl 1 rfl) ?_
          refine r_iald (q0 := 5) (j := (ix key)) (n := 8) (f := (A 4)) hx hb hI rfl hk_key (by omega) (by decide) dX4_extendKey_44 ?_
          refine lv_aload_n hx hb dX4_extendKey_45 rfl (lv_at hl 0 rfl) ?_
          refine r_get (C := RX4) (T := TX4) (N := 23) (k := 21) (q0 := 0) (v := .int (S 4)) hx hb hts hi4 hown hI rfl rfl (by decide) (hts (.fieldLink RX4 86 "BuildlotsModel" "day" "I") (List.mem_of_getElem? (i := 3) rfl)) rfl rfl dX4_extendKey_46 ?_
          refine lv_icmp_ge (tgt := 56) hx hb dX4_extendKey_49 (by decide) (fun c49_7 => ?_) (fun c49_7 => ?_)
          · refine lv_iconst (v := 0) hx hb dX4_extendKey_56 (by decide) ?_
            refine rw_i (w' := wM cy q A (uS (uS S 5 (bI (noR key nk))) 5 0)) (va_runV (As := [.int 0]) (rest := []) ⟨hx, hb, hml, hown, hts⟩ (c_X4_fails l D cy h0 q A (uS S 5 (bI (noR key nk))) 0) (cwV 1 hts gX4_extendKey_X4_fails rfl rfl rfl (by decide +kernel) ⟨Nat.le_of_ble_eq_true rfl, Nat.le_of_ble_eq_true rfl⟩) (hI.preV (k0 := 0) rfl rfl) rfl rfl hl.1 rfl (lv_room (Nat.le_of_ble_eq_true rfl)) dX4_extendKey_57 ⟨Nat.le_of_ble_eq_true rfl, Nat.le_of_ble_eq_true rfl⟩) hI hS (fun _ h => h) hqA (fun H locs hI hS => ?_)
            rw [uS_uS] at hI
            rw [show (bI (failsB 0)) = 0 from (by decide)]
            refine lv_if_eq (tgt := 65) hx hb dX4_extendKey_60 (by decide) (fun c60_8 => ?_) (fun c60_8 => ?_)
            rotate_left
            · exact absurd c60_8 (by decide)
            refine lv_aload_n hx hb dX4_extendKey_65 rfl (lv_at hl 0 rfl) ?_
            refine r_get (C := RX4) (T := TX4) (N := 23) (k := 5) (q0 := 0) (v := .ref (q 5)) hx hb hts hi4 hown hI rfl rfl (by decide) (hts (.fieldLink RX4 22 "BuildlotsModel" "lasts" "[I") (List.mem_of_getElem? (i := 1) rfl)) rfl rfl dX4_extendKey_66 ?_
            refine lv_iload_n hx hb dX4_extendKey_69 rfl (lv_at hl 1 rfl) ?_
            refine r_iald (q0 := 5) (j := (ix key)) (n := 8) (f := (A 4)) hx hb hI rfl hk_key (by omega) (by decide) dX4_extendKey_70 ?_
            refine lv_istore_n (lv' := [(3, .int (A 4 (ix key))), (0, .ref (q 0)), (1, .int key), (2, .int last)]) hx hb dX4_extendKey_71 rfl hl (by decide) rfl (fun ls hl => ?_)
            refine lv_aload_n hx hb dX4_extendKey_72 rfl (lv_at hl 1 rfl) ?_
            refine r_get (C := RX4) (T := TX4) (N := 23) (k := 5) (q0 := 0) (v := .ref (q 5)) hx hb hts hi4 hown hI rfl rfl (by decide) (hts (.fieldLink RX4 22 "BuildlotsModel" "lasts" "[I") (List.mem_of_getElem? (i := 1) rfl)) rfl rfl dX4_extendKey_73 ?_
            refine lv_iload_n hx hb dX4_extendKey_76 rfl (lv_at hl 2 rfl) ?_
            refine lv_iload_n hx hb dX4_extendKey_77 rfl (lv_at hl 3 rfl) ?_
            refine r_iast (w' := wM cy q (uA A 4 (upd (A 4) (ix key) last)) (uS S 5 0)) (q0 := 5) (j := (ix key)) (n := 8) (f := (A 4)) hx hb hI hS hqA hh0 (qA_M hI) rfl hk_key (by omega) (by decide) dX4_extendKey_78 rfl (fun H locs hI hS => ?_)
            refine lv_iload_n hx hb dX4_extendKey_79 rfl (lv_at hl 0 rfl) ?_
            rw [show wM cy q (uA A 4 (upd (A 4) (ix key) last)) (uS S 5 0) = wM cy q (if mcExtendKey A S key last nk = 0 then uA A 4 (upd (A 4) (ix key) last) else A) (uS S 5 (mcExtendKey A S key last nk)) from (wM_A (by first | rfl | (simp only [mcExtendKey, bI, c5_1, c16_2, c23_4, c36_5, c49_7,  ↓reduceIte, Bool.false_eq_true, reduceCtorEq, i10, i20, i30, i40]; done) | simp [mcExtendKey, bI, c5_1, c16_2, c23_4, c36_5, c49_7, ]) (by first | rfl | (simp only [mcExtendKey, bI, c5_1, c16_2, c23_4, c36_5, c49_7,  ↓reduceIte, Bool.false_eq_true, reduceCtorEq, i10, i20, i30, i40]; done) | simp [mcExtendKey, bI, c5_1, c16_2, c23_4, c36_5, c49_7, ]))] at hI
            exact end_rwi hx hb hr (by first | (simp only [mcExtendKey, bI, c5_1, c16_2, c23_4, c36_5, c49_7,  ↓reduceIte, Bool.false_eq_true, reduceCtorEq, i10, i20, i30, i40]; done) | simp [mcExtendKey, bI, c5_1, c16_2, c23_4, c36_5, c49_7, ]) hI hS dX4_extendKey_80 hlk
          · refine lv_iconst (v := 3) hx hb dX4_extendKey_52 (by decide) ?_
            refine lv_goto (tgt := 57) hx hb dX4_extendKey_53 (by decide) ?_
            refine rw_i (w' := wM cy q A (uS (uS S 5 (bI (noR key nk))) 5 3)) (va_runV (As := [.int 3]) (rest := []) ⟨hx, hb, hml, hown, hts⟩ (c_X4_fails l D cy h0 q A (uS S 5 (bI (noR key nk))) 3) (cwV 1 hts gX4_extendKey_X4_fails rfl rfl rfl (by decide +kernel) ⟨Nat.le_of_ble_eq_true rfl, Nat.le_of_ble_eq_true rfl⟩) (hI.preV (k0 := 0) rfl rfl) rfl rfl hl.1 rfl (lv_room (Nat.le_of_ble_eq_true rfl)) dX4_extendKey_57 ⟨Nat.le_of_ble_eq_true rfl, Nat.le_of_ble_eq_true rfl⟩) hI hS (fun _ h => h) hqA (fun H locs hI hS => ?_)
            rw [uS_uS] at hI
            rw [show (bI (failsB 3)) = 1 from (by decide)]
            refine lv_if_eq (tgt := 65) hx hb dX4_extendKey_60 (by decide) (fun c60_9 => ?_) (fun c60_9 => ?_)
            · exact absurd c60_9 (by decide)
            refine lv_iconst (v := 0) hx hb dX4_extendKey_63 (by decide) ?_
            rw [show wM cy q A (uS S 5 3) = wM cy q (if mcExtendKey A S key last nk = 0 then uA A 4 (upd (A 4) (ix key) last) else A) (uS S 5 (mcExtendKey A S key last nk)) from (wM_A (by first | rfl | (simp only [mcExtendKey, bI, c5_1, c16_2, c23_4, c36_5, c49_7,  ↓reduceIte, Bool.false_eq_true, reduceCtorEq, i10, i20, i30, i40]; done) | simp [mcExtendKey, bI, c5_1, c16_2, c23_4, c36_5, c49_7, ]) (by first | rfl | (simp only [mcExtendKey, bI, c5_1, c16_2, c23_4, c36_5, c49_7,  ↓reduceIte, Bool.false_eq_true, reduceCtorEq, i10, i20, i30, i40]; done) | simp [mcExtendKey, bI, c5_1, c16_2, c23_4, c36_5, c49_7, ]))] at hI
            exact end_rwi hx hb hr (by first | (simp only [mcExtendKey, bI, c5_1, c16_2, c23_4, c36_5, c49_7,  ↓reduceIte, Bool.false_eq_true, reduceCtorEq, i10, i20, i30, i40]; done) | simp [mcExtendKey, bI, c5_1, c16_2, c23_4, c36_5, c49_7, ]) hI hS dX4_extendKey_64 hlk
      · refine lv_iconst (v := 2) hx hb dX4_extendKey_26 (by decide) ?_
        refine lv_goto (tgt := 57) hx hb dX4_extendKey_27 (by decide) ?_
        refine rw_i (w' := wM cy q A (uS (uS S 5 (bI (noR key nk))) 5 2)) (va_runV (As := [.int 2]) (rest := []) ⟨hx, hb, hml, hown, hts⟩ (c_X4_fails l D cy h0 q A (uS S 5 (bI (noR key nk))) 2) (cwV 1 hts gX4_extendKey_X4_fails rfl rfl rfl (by decide +kernel) ⟨Nat.le_of_ble_eq_true rfl, Nat.le_of_ble_eq_true rfl⟩) (hI.preV (k0 := 0) rfl rfl) rfl rfl hl.1 rfl (lv_room (Nat.le_of_ble_eq_true rfl)) dX4_extendKey_57 ⟨Nat.le_of_ble_eq_true rfl, Nat.le_of_ble_eq_true rfl⟩) hI hS (fun _ h => h) hqA (fun H locs hI hS => ?_)
        rw [uS_uS] at hI
        rw [show (bI (failsB 2)) = 1 from (by decide)]
        refine lv_if_eq (tgt := 65) hx hb dX4_extendKey_60 (by decide) (fun c60_10 => ?_) (fun c60_10 => ?_)
        · exact absurd c60_10 (by decide)
        refine lv_iconst (v := 0) hx hb dX4_extendKey_63 (by decide) ?_
        rw [show wM cy q A (uS S 5 2) = wM cy q (if mcExtendKey A S key last nk = 0 then uA A 4 (upd (A 4) (ix key) last) else A) (uS S 5 (mcExtendKey A S key last nk)) from (wM_A (by first | rfl | (simp only [mcExtendKey, bI, c5_1, c16_2, c23_4,  ↓reduceIte, Bool.false_eq_true, reduceCtorEq, i10, i20, i30, i40]; done) | simp [mcExtendKey, bI, c5_1, c16_2, c23_4, ]) (by first | rfl | (simp only [mcExtendKey, bI, c5_1, c16_2, c23_4,  ↓reduceIte, Bool.false_eq_true, reduceCtorEq, i10, i20, i30, i40]; done) | simp [mcExtendKey, bI, c5_1, c16_2, c23_4, ]))] at hI
        exact end_rwi hx hb hr (by first | (simp only [mcExtendKey, bI, c5_1, c16_2, c23_4,  ↓reduceIte, Bool.false_eq_true, reduceCtorEq, i10, i20, i30, i40]; done) | simp [mcExtendKey, bI, c5_1, c16_2, c23_4, ]) hI hS dX4_extendKey_64 hlk

set_option maxHeartbeats 4000000 in
set_option maxRecDepth 100000 in
theorem c_X4_isLive (l : Launch) (D : va_G) (cy : Nat → ClassId) (h0 : Nat) (q : Nat → Nat) (A : Nat → Nat → Int32) (S : Nat → Int32) (key : Int32) (nk : Nat) (hnk : nk ≤ 8) (hck : S 0 = nI nk) : Met l yX4_isLive wsX4_isLive (rmO 3 43) (va_Pc [.ref (q 0), .int key] (pI D cy h0 (wM cy q A S))) (rwI (bI (!noR key nk && liveM A S (ix key))) D cy h0 (wM cy q A (uS S 5 (mcR key nk))) (qA 18 q)) 0 0 (qA 18 q) := by
  refine Met.ofW (cc := cX4_isLive) (maxL := 2) (ret := (some .boolean)) (by decide) rfl ?_
  intro p e s m args below meth c s₁ B hml hv
  obtain ⟨rfl, hI⟩ := hv
  have hx := B.exec
  have hb := B.bytes
  have hr := B.returns
  have hts := atoms_spec (ws := wsX4_isLive) B.pre
  have hown : s.vm.findClass RX4 = some m.cls := findClass_of_methodNamed B.named
  have hlk := B.notSynchronized
  have hI : IH D cy h0 (wM cy q A S) s s.heap := hI
  have hG := hI.1
  have hqA := hA_M hI
  have hh0 : h0 ≤ s.heap.size := hI.1.2.2.2
  have hS : va_S nof s.heap s.heap [] := va_S.rf
  have hi4 : ∀ w ∈ wsX40, w ∈ wsX4_isLive := by decide +kernel
  have hl := lv_entry ([.ref (q 0), .int key]) (n := 2) (Nat.le_of_ble_eq_true rfl)
  rw [lg_entry_eq]
  generalize (lg_sl ([.ref (q 0), .int key]) ++ List.replicate (2 - (lg_sl ([.ref (q 0), .int key])).length) Slot.unset).toArray = ls at hl ⊢
  have hl : lv_has ls 2 [(0, .ref (q 0)), (1, .int key)] := hl
  refine lv_aload_n hx hb dX4_isLive_0 rfl (lv_at hl 0 rfl) ?_
  refine lv_iload_n hx hb dX4_isLive_1 rfl (lv_at hl 1 rfl) ?_
  have hS := hS.mono (B := qA 18 q) (fun _ h => h.elim)
  refine rw_i (w' := wM cy q A (uS S 5 (bI (noR key nk)))) (va_runV (As := [.int key]) (rest := []) ⟨hx, hb, hml, hown, hts⟩ (c_X4_isNoKey l D cy h0 q A S key nk hnk hck) (cwV 1 hts gX4_isLive_X4_isNoKey rfl rfl rfl (by decide +kernel) ⟨Nat.le_of_ble_eq_true rfl, Nat.le_of_ble_eq_true rfl⟩) (hI.preV (k0 := 0) rfl rfl) rfl rfl hl.1 rfl (lv_room (Nat.le_of_ble_eq_true rfl)) dX4_isLive_2 ⟨Nat.le_of_ble_eq_true rfl, Nat.le_of_ble_eq_true rfl⟩) hI hS (fun _ h => h) hqA (fun H locs hI hS => ?_)
  refine r_ifne_b (tgt := 20) hx hb dX4_isLive_5 (by decide) (fun c5_1 => ?_) (fun c5_1 => ?_)
  · refine lv_iconst (v := 0) hx hb dX4_isLive_20 (by decide) ?_
    rw [show wM cy q A (uS S 5 (bI (noR key nk))) = wM cy q A (uS S 5 (mcR key nk)) from (wM_A (by first | rfl | (simp only [bI, mcR, c5_1,  ↓reduceIte, Bool.false_eq_true, reduceCtorEq, i10, i20, i30, i40]; done) | simp [bI, mcR, c5_1, ]) (by first | rfl | (simp only [bI, mcR, c5_1,  ↓reduceIte, Bool.false_eq_true, reduceCtorEq, i10, i20, i30, i40]; done) | simp [bI, mcR, c5_1, ]))] at hI
    exact end_rwz hx hb hr rfl (by first | (simp only [bI, mcR, c5_1,  ↓reduceIte, Bool.false_eq_true, reduceCtorEq, i10, i20, i30, i40]; done) | simp [bI, mcR, c5_1, ]) hI hS dX4_isLive_21 hlk
  · obtain ⟨hj_key, hk_key⟩ := noR_c (by omega) c5_1
    refine lv_aload_n hx hb dX4_isLive_8 rfl (lv_at hl 0 rfl) ?_
    refine lv_iload_n hx hb dX4_isLive_9 rfl (lv_at hl 1 rfl) ?_
    refine ro_i (va_runV (As := [.int key]) (rest := []) ⟨hx, hb, hml, hown, hts⟩ (c_X4_lives l D cy h0 q A (uS S 5 (bI (noR key nk))) key (ix key) (by omega) hk_key) (cwV 1 hts gX4_isLive_X4_lives rfl rfl rfl (by decide +kernel) ⟨Nat.le_of_ble_eq_true rfl, Nat.le_of_ble_eq_true rfl⟩) (hI.preV (k0 := 0) rfl rfl) rfl rfl hl.1 rfl (lv_room (Nat.le_of_ble_eq_true rfl)) dX4_isLive_10 ⟨Nat.le_of_ble_eq_true rfl, Nat.le_of_ble_eq_true rfl⟩) hI hS (fun H locs hI hS => ?_)
    rw [liveM_5]
    refine r_ifeq_b (tgt := 20) hx hb dX4_isLive_13 (by decide) (fun c13_2 => ?_) (fun c13_2 => ?_)
    · refine lv_iconst (v := 0) hx hb dX4_isLive_20 (by decide) ?_
      rw [show wM cy q A (uS S 5 (bI (noR key nk))) = wM cy q A (uS S 5 (mcR key nk)) from (wM_A (by first | rfl | (simp only [bI, mcR, c5_1, c13_2,  ↓reduceIte, Bool.false_eq_true, reduceCtorEq, i10, i20, i30, i40]; done) | simp [bI, mcR, c5_1, c13_2, ]) (by first | rfl | (simp only [bI, mcR, c5_1, c13_2,  ↓reduceIte, Bool.false_eq_true, reduceCtorEq, i10, i20, i30, i40]; done) | simp [bI, mcR, c5_1, c13_2, ]))] at hI
      exact end_rwz hx hb hr rfl (by first | (simp only [bI, mcR, c5_1, c13_2,  ↓reduceIte, Bool.false_eq_true, reduceCtorEq, i10, i20, i30, i40]; done) | simp [bI, mcR, c5_1, c13_2, ]) hI hS dX4_isLive_21 hlk
    · refine lv_iconst (v := 1) hx hb dX4_isLive_16 (by decide) ?_
      refine lv_goto (tgt := 21) hx hb dX4_isLive_17 (by decide) ?_
      rw [show wM cy q A (uS S 5 (bI (noR key nk))) = wM cy q A (uS S 5 (mcR key nk)) from (wM_A (by first | rfl | (simp only [bI, mcR, c5_1, c13_2,  ↓reduceIte, Bool.false_eq_true, reduceCtorEq, i10, i20, i30, i40]; done) | simp [bI, mcR, c5_1, c13_2, ]) (by first | rfl | (simp only [bI, mcR, c5_1, c13_2,  ↓reduceIte, Bool.false_eq_true, reduceCtorEq, i10, i20, i30, i40]; done) | simp [bI, mcR, c5_1, c13_2, ]))] at hI
      exact end_rwz hx hb hr rfl (by first | (simp only [bI, mcR, c5_1, c13_2,  ↓reduceIte, Bool.false_eq_true, reduceCtorEq, i10, i20, i30, i40]; done) | simp [bI, mcR, c5_1, c13_2, ]) hI hS dX4_isLive_21 hlk

set_option maxHeartbeats 4000000 in
set_option maxRecDepth 100000 in
theorem c_X4_setWeight (l : Launch) (D : va_G) (cy : Nat → ClassId) (h0 : Nat) (q : Nat → Nat) (A : Nat → Nat → Int32) (S : Nat → Int32) (signer : Int32) (weight : Int32) : Met l yX4_setWeight wsX4_setWeight (rmO 2 22) (va_Pc [.ref (q 0), .int signer, .int weight] (pI D cy h0 (wM cy q A S))) (rwI (if mcSetWeight signer weight = 0 then A 0 (ix signer) else 0) D cy h0 (wM cy q (if mcSetWeight signer weight = 0 then uA A 0 (upd (A 0) (ix signer) weight) else A) (uS S 5 (mcSetWeight signer weight))) (qA 18 q)) 0 0 (qA 18 q) := by
  refine Met.ofW (cc := cX4_setWeight) (maxL := 4) (ret := (some .int)) (by decide) rfl ?_
  intro p e s m args below meth c s₁ B hml hv
  obtain ⟨rfl, hI⟩ := hv
  have hx := B.exec
  have hb := B.bytes
  have hr := B.returns
  have hts := atoms_spec (ws := wsX4_setWeight) B.pre
  have hown : s.vm.findClass RX4 = some m.cls := findClass_of_methodNamed B.named
  have hlk := B.notSynchronized
  have hI : IH D cy h0 (wM cy q A S) s s.heap := hI
  have hG := hI.1
  have hqA := hA_M hI
  have hh0 : h0 ≤ s.heap.size := hI.1.2.2.2
  have hS : va_S nof s.heap s.heap [] := va_S.rf
  have hi4 : ∀ w ∈ wsX40, w ∈ wsX4_setWeight := by decide +kernel
  have hl := lv_entry ([.ref (q 0), .int signer, .int weight]) (n := 4) (Nat.le_of_ble_eq_true rfl)
  rw [lg_entry_eq]
  generalize (lg_sl ([.ref (q 0), .int signer, .int weight]) ++ List.replicate (4 - (lg_sl ([.ref (q 0), .int signer, .int weight])).length) Slot.unset).toArray = ls at hl ⊢
  have hl : lv_has ls 4 [(0, .ref (q 0)), (1, .int signer), (2, .int weight)] := hl
  refine lv_aload_n hx hb dX4_setWeight_0 rfl (lv_at hl 0 rfl) ?_
  refine lv_iload_n hx hb dX4_setWeight_1 rfl (lv_at hl 1 rfl) ?_
  refine lv_iconst (v := 0) hx hb dX4_setWeight_2 (by decide) ?_
  refine lv_iconst (v := 3) hx hb dX4_setWeight_3 (by decide) ?_
  refine ro_i (va_runS (As := [.int signer, .int 0, .int 3]) (rest := [.ref (q 0)]) ⟨hx, hb, hml, hown, hts⟩ (c_X4_in l signer 0 3) (va_cwS 3 hts gX4_setWeight_X4_in rfl rfl rfl (by decide +kernel) ⟨Nat.le_of_ble_eq_true rfl, Nat.le_of_ble_eq_true rfl⟩) preT rfl rfl hl.1 rfl (lv_room (Nat.le_of_ble_eq_true rfl)) dX4_setWeight_4 ⟨Nat.le_of_ble_eq_true rfl, Nat.le_of_ble_eq_true rfl⟩) hI hS (fun H locs hI hS => ?_)
  rw [show (bI (inB signer 0 3)) = bI (inR signer 4) from (congrArg bI (inB_3 _))]
  refine r_ifeq_b (tgt := 24) hx hb dX4_setWeight_7 (by decide) (fun c7_1 => ?_) (fun c7_1 => ?_)
  · refine lv_iconst (v := 1) hx hb dX4_setWeight_24 (by decide) ?_
    have hS := hS.mono (B := qA 18 q) (fun _ h => h.elim)
    refine rw_i (w' := wM cy q A (uS S 5 1)) (va_runV (As := [.int 1]) (rest := []) ⟨hx, hb, hml, hown, hts⟩ (c_X4_fails l D cy h0 q A S 1) (cwV 1 hts gX4_setWeight_X4_fails rfl rfl rfl (by decide +kernel) ⟨Nat.le_of_ble_eq_true rfl, Nat.le_of_ble_eq_true rfl⟩) (hI.preV (k0 := 0) rfl rfl) rfl rfl hl.1 rfl (lv_room (Nat.le_of_ble_eq_true rfl)) dX4_setWeight_25 ⟨Nat.le_of_ble_eq_true rfl, Nat.le_of_ble_eq_true rfl⟩) hI hS (fun _ h => h) hqA (fun H locs hI hS => ?_)
    rw [show (bI (failsB 1)) = 1 from (by decide)]
    refine lv_if_eq (tgt := 33) hx hb dX4_setWeight_28 (by decide) (fun c28_2 => ?_) (fun c28_2 => ?_)
    · exact absurd c28_2 (by decide)
    refine lv_iconst (v := 0) hx hb dX4_setWeight_31 (by decide) ?_
    rw [show wM cy q A (uS S 5 1) = wM cy q (if mcSetWeight signer weight = 0 then uA A 0 (upd (A 0) (ix signer) weight) else A) (uS S 5 (mcSetWeight signer weight)) from (wM_A (by first | rfl | (simp only [mcSetWeight, bI, c7_1,  ↓reduceIte, Bool.false_eq_true, reduceCtorEq, i10, i20, i30, i40]; done) | simp [mcSetWeight, bI, c7_1, ]) (by first | rfl | (simp only [mcSetWeight, bI, c7_1,  ↓reduceIte, Bool.false_eq_true, reduceCtorEq, i10, i20, i30, i40]; done) | simp [mcSetWeight, bI, c7_1, ]))] at hI
    exact end_rwi hx hb hr (by first | (simp only [mcSetWeight, bI, c7_1,  ↓reduceIte, Bool.false_eq_true, reduceCtorEq, i10, i20, i30, i40]; done) | simp [mcSetWeight, bI, c7_1, ]) hI hS dX4_setWeight_32 hlk
  · obtain ⟨hj_signer, hk_signer⟩ := inR_c (by omega) c7_1
    refine lv_iload_n hx hb dX4_setWeight_10 rfl (lv_at hl 2 rfl) ?_
    refine lv_iconst (v := 0) hx hb dX4_setWeight_11 (by decide) ?_
    refine lv_bipush (v := 100) hx hb dX4_setWeight_12 (by decide) ?_
    refine ro_i (va_runS (As := [.int weight, .int 0, .int 100]) (rest := [.ref (q 0)]) ⟨hx, hb, hml, hown, hts⟩ (c_X4_in l weight 0 100) (va_cwS 3 hts gX4_setWeight_X4_in rfl rfl rfl (by decide +kernel) ⟨Nat.le_of_ble_eq_true rfl, Nat.le_of_ble_eq_true rfl⟩) preT rfl rfl hl.1 rfl (lv_room (Nat.le_of_ble_eq_true rfl)) dX4_setWeight_14 ⟨Nat.le_of_ble_eq_true rfl, Nat.le_of_ble_eq_true rfl⟩) hI hS (fun H locs hI hS => ?_)
    refine r_ifeq_b (tgt := 24) hx hb dX4_setWeight_17 (by decide) (fun c17_3 => ?_) (fun c17_3 => ?_)
    · refine lv_iconst (v := 1) hx hb dX4_setWeight_24 (by decide) ?_
      have hS := hS.mono (B := qA 18 q) (fun _ h => h.elim)
      refine rw_i (w' := wM cy q A (uS S 5 1)) (va_runV (As := [.int 1]) (rest := []) ⟨hx, hb, hml, hown, hts⟩ (c_X4_fails l D cy h0 q A S 1) (cwV 1 hts gX4_setWeight_X4_fails rfl rfl rfl (by decide +kernel) ⟨Nat.le_of_ble_eq_true rfl, Nat.le_of_ble_eq_true rfl⟩) (hI.preV (k0 := 0) rfl rfl) rfl rfl hl.1 rfl (lv_room (Nat.le_of_ble_eq_true rfl)) dX4_setWeight_25 ⟨Nat.le_of_ble_eq_true rfl, Nat.le_of_ble_eq_true rfl⟩) hI hS (fun _ h => h) hqA (fun H locs hI hS => ?_)
      rw [show (bI (failsB 1)) = 1 from (by decide)]
      refine lv_if_eq (tgt := 33) hx hb dX4_setWeight_28 (by decide) (fun c28_4 => ?_) (fun c28_4 => ?_)
      · exact absurd c28_4 (by decide)
      refine lv_iconst (v := 0) hx hb dX4_setWeight_31 (by decide) ?_
      rw [show wM cy q A (uS S 5 1) = wM cy q (if mcSetWeight signer weight = 0 then uA A 0 (upd (A 0) (ix signer) weight) else A) (uS S 5 (mcSetWeight signer weight)) from (wM_A (by first | rfl | (simp only [mcSetWeight, bI, c7_1, c17_3,  ↓reduceIte, Bool.false_eq_true, reduceCtorEq, i10, i20, i30, i40]; done) | simp [mcSetWeight, bI, c7_1, c17_3, ]) (by first | rfl | (simp only [mcSetWeight, bI, c7_1, c17_3,  ↓reduceIte, Bool.false_eq_true, reduceCtorEq, i10, i20, i30, i40]; done) | simp [mcSetWeight, bI, c7_1, c17_3, ]))] at hI
      exact end_rwi hx hb hr (by first | (simp only [mcSetWeight, bI, c7_1, c17_3,  ↓reduceIte, Bool.false_eq_true, reduceCtorEq, i10, i20, i30, i40]; done) | simp [mcSetWeight, bI, c7_1, c17_3, ]) hI hS dX4_setWeight_32 hlk
    · refine lv_iconst (v := 0) hx hb dX4_setWeight_20 (by decide) ?_
      refine lv_goto (tgt := 25) hx hb dX4_setWeight_21 (by decide) ?_
      have hS := hS.mono (B := qA 18 q) (fun _ h => h.elim)
      refine rw_i (w' := wM cy q A (uS S 5 0)) (va_runV (As := [.int 0]) (rest := []) ⟨hx, hb, hml, hown, hts⟩ (c_X4_fails l D cy h0 q A S 0) (cwV 1 hts gX4_setWeight_X4_fails rfl rfl rfl (by decide +kernel) ⟨Nat.le_of_ble_eq_true rfl, Nat.le_of_ble_eq_true rfl⟩) (hI.preV (k0 := 0) rfl rfl) rfl rfl hl.1 rfl (lv_room (Nat.le_of_ble_eq_true rfl)) dX4_setWeight_25 ⟨Nat.le_of_ble_eq_true rfl, Nat.le_of_ble_eq_true rfl⟩) hI hS (fun _ h => h) hqA (fun H locs hI hS => ?_)
      rw [show (bI (failsB 0)) = 0 from (by decide)]
      refine lv_if_eq (tgt := 33) hx hb dX4_setWeight_28 (by decide) (fun c28_5 => ?_) (fun c28_5 => ?_)
      rotate_left
      · exact absurd c28_5 (by decide)
      refine lv_aload_n hx hb dX4_setWeight_33 rfl (lv_at hl 0 rfl) ?_
      refine r_get (C := RX4) (T := TX4) (N := 23) (k := 0) (q0 := 0) (v := .ref (q 1)) hx hb hts hi4 hown hI rfl rfl (by decide) (hts (.fieldLink RX4 7 "BuildlotsModel" "weights" "[I") (List.mem_of_getElem? (i := 1) rfl)) rfl rfl dX4_setWeight_34 ?_
      refine lv_iload_n hx hb dX4_setWeight_37 rfl (lv_at hl 1 rfl) ?_
      refine r_iald (q0 := 1) (j := (ix signer)) (n := 4) (f := (A 0)) hx hb hI rfl hk_signer (by omega) (by decide) dX4_setWeight_38 ?_
      refine lv_istore_n (lv' := [(3, .int (A 0 (ix signer))), (0, .ref (q 0)), (1, .int signer), (2, .int weight)]) hx hb dX4_setWeight_39 rfl hl (by decide) rfl (fun ls hl => ?_)
      refine lv_aload_n hx hb dX4_setWeight_40 rfl (lv_at hl 1 rfl) ?_
      refine r_get (C := RX4) (T := TX4) (N := 23) (k := 0) (q0 := 0) (v := .ref (q 1)) hx hb hts hi4 hown hI rfl rfl (by decide) (hts (.fieldLink RX4 7 "BuildlotsModel" "weights" "[I") (List.mem_of_getElem? (i := 1) rfl)) rfl rfl dX4_setWeight_41 ?_
      refine lv_iload_n hx hb dX4_setWeight_44 rfl (lv_at hl 2 rfl) ?_
      refine lv_iload_n hx hb dX4_setWeight_45 rfl (lv_at hl 3 rfl) ?_
      refine r_iast (w' := wM cy q (uA A 0 (upd (A 0) (ix signer) weight)) (uS S 5 0)) (q0 := 1) (j := (ix signer)) (n := 4) (f := (A 0)) hx hb hI hS hqA hh0 (qA_M hI) rfl hk_signer (by omega) (by decide) dX4_setWeight_46 rfl (fun H locs hI hS => ?_)
      refine lv_iload_n hx hb dX4_setWeight_47 rfl (lv_at hl 0 rfl) ?_
      rw [show wM cy q (uA A 0 (upd (A 0) (ix signer) weight)) (uS S 5 0) = wM cy q (if mcSetWeight signer weight = 0 then uA A 0 (upd (A 0) (ix signer) weight) else A) (uS S 5 (mcSetWeight signer weight)) from (wM_A (by first | rfl | (simp only [mcSetWeight, bI, c7_1, c17_3,  ↓reduceIte, Bool.false_eq_true, reduceCtorEq, i10, i20, i30, i40]; done) | simp [mcSetWeight, bI, c7_1, c17_3, ]) (by first | rfl | (simp only [mcSetWeight, bI, c7_1, c17_3,  ↓reduceIte, Bool.false_eq_true, reduceCtorEq, i10, i20, i30, i40]; done) | simp [mcSetWeight, bI, c7_1, c17_3, ]))] at hI
      exact end_rwi hx hb hr (by first | (simp only [mcSetWeight, bI, c7_1, c17_3,  ↓reduceIte, Bool.false_eq_true, reduceCtorEq, i10, i20, i30, i40]; done) | simp [mcSetWeight, bI, c7_1, c17_3, ]) hI hS dX4_setWeight_48 hlk

set_option maxHeartbeats 4000000 in
set_option maxRecDepth 100000 in
theorem c_X4_setThreshold (l : Launch) (D : va_G) (cy : Nat → ClassId) (h0 : Nat) (q : Nat → Nat) (A : Nat → Nat → Int32) (S : Nat → Int32) (name : Int32) (thr : Int32) : Met l yX4_setThreshold wsX4_setThreshold (rmO 3 42) (va_Pc [.ref (q 0), .int name, .int thr] (pI D cy h0 (wM cy q A S))) (rwI (if mcSetThr name thr = 0 then A 1 (ix name) else 0) D cy h0 (wM cy q (if mcSetThr name thr = 0 then uA A 1 (upd (A 1) (ix name) thr) else A) (uS S 5 (mcSetThr name thr))) (qA 18 q)) 0 0 (qA 18 q) := by
  refine Met.ofW (cc := cX4_setThreshold) (maxL := 4) (ret := (some .int)) (by decide) rfl ?_
  intro p e s m args below meth c s₁ B hml hv
  obtain ⟨rfl, hI⟩ := hv
  have hx := B.exec
  have hb := B.bytes
  have hr := B.returns
  have hts := atoms_spec (ws := wsX4_setThreshold) B.pre
  have hown : s.vm.findClass RX4 = some m.cls := findClass_of_methodNamed B.named
  have hlk := B.notSynchronized
  have hI : IH D cy h0 (wM cy q A S) s s.heap := hI
  have hG := hI.1
  have hqA := hA_M hI
  have hh0 : h0 ≤ s.heap.size := hI.1.2.2.2
  have hS : va_S nof s.heap s.heap [] := va_S.rf
  have hi4 : ∀ w ∈ wsX40, w ∈ wsX4_setThreshold := by decide +kernel
  have hl := lv_entry ([.ref (q 0), .int name, .int thr]) (n := 4) (Nat.le_of_ble_eq_true rfl)
  rw [lg_entry_eq]
  generalize (lg_sl ([.ref (q 0), .int name, .int thr]) ++ List.replicate (4 - (lg_sl ([.ref (q 0), .int name, .int thr])).length) Slot.unset).toArray = ls at hl ⊢
  have hl : lv_has ls 4 [(0, .ref (q 0)), (1, .int name), (2, .int thr)] := hl
  refine lv_aload_n hx hb dX4_setThreshold_0 rfl (lv_at hl 0 rfl) ?_
  refine lv_iload_n hx hb dX4_setThreshold_1 rfl (lv_at hl 1 rfl) ?_
  refine ro_i (va_runS (As := [.int name]) (rest := [.ref (q 0)]) ⟨hx, hb, hml, hown, hts⟩ (c_X4_isNoName l name) (va_cwS 1 hts gX4_setThreshold_X4_isNoName rfl rfl rfl (by decide +kernel) ⟨Nat.le_of_ble_eq_true rfl, Nat.le_of_ble_eq_true rfl⟩) preT rfl rfl hl.1 rfl (lv_room (Nat.le_of_ble_eq_true rfl)) dX4_setThreshold_2 ⟨Nat.le_of_ble_eq_true rfl, Nat.le_of_ble_eq_true rfl⟩) hI hS (fun H locs hI hS => ?_)
  refine r_ifne_b (tgt := 19) hx hb dX4_setThreshold_5 (by decide) (fun c5_1 => ?_) (fun c5_1 => ?_)
  · refine lv_iconst (v := 1) hx hb dX4_setThreshold_19 (by decide) ?_
    refine lv_goto (tgt := 24) hx hb dX4_setThreshold_20 (by decide) ?_
    have hS := hS.mono (B := qA 18 q) (fun _ h => h.elim)
    refine rw_i (w' := wM cy q A (uS S 5 1)) (va_runV (As := [.int 1]) (rest := []) ⟨hx, hb, hml, hown, hts⟩ (c_X4_fails l D cy h0 q A S 1) (cwV 1 hts gX4_setThreshold_X4_fails rfl rfl rfl (by decide +kernel) ⟨Nat.le_of_ble_eq_true rfl, Nat.le_of_ble_eq_true rfl⟩) (hI.preV (k0 := 0) rfl rfl) rfl rfl hl.1 rfl (lv_room (Nat.le_of_ble_eq_true rfl)) dX4_setThreshold_24 ⟨Nat.le_of_ble_eq_true rfl, Nat.le_of_ble_eq_true rfl⟩) hI hS (fun _ h => h) hqA (fun H locs hI hS => ?_)
    rw [show (bI (failsB 1)) = 1 from (by decide)]
    refine lv_if_eq (tgt := 32) hx hb dX4_setThreshold_27 (by decide) (fun c27_2 => ?_) (fun c27_2 => ?_)
    · exact absurd c27_2 (by decide)
    refine lv_iconst (v := 0) hx hb dX4_setThreshold_30 (by decide) ?_
    rw [show wM cy q A (uS S 5 1) = wM cy q (if mcSetThr name thr = 0 then uA A 1 (upd (A 1) (ix name) thr) else A) (uS S 5 (mcSetThr name thr)) from (wM_A (by first | rfl | (simp only [mcSetThr, bI, c5_1,  ↓reduceIte, Bool.false_eq_true, reduceCtorEq, i10, i20, i30, i40]; done) | simp [mcSetThr, bI, c5_1, ]) (by first | rfl | (simp only [mcSetThr, bI, c5_1,  ↓reduceIte, Bool.false_eq_true, reduceCtorEq, i10, i20, i30, i40]; done) | simp [mcSetThr, bI, c5_1, ]))] at hI
    exact end_rwi hx hb hr (by first | (simp only [mcSetThr, bI, c5_1,  ↓reduceIte, Bool.false_eq_true, reduceCtorEq, i10, i20, i30, i40]; done) | simp [mcSetThr, bI, c5_1, ]) hI hS dX4_setThreshold_31 hlk
  · obtain ⟨hj_name, hk_name⟩ := noR_c (by omega) c5_1
    refine lv_iload_n hx hb dX4_setThreshold_8 rfl (lv_at hl 2 rfl) ?_
    refine lv_iconst (v := 1) hx hb dX4_setThreshold_9 (by decide) ?_
    refine lv_sipush (v := 400) hx hb dX4_setThreshold_10 (by decide) ?_
    refine ro_i (va_runS (As := [.int thr, .int 1, .int 400]) (rest := [.ref (q 0)]) ⟨hx, hb, hml, hown, hts⟩ (c_X4_in l thr 1 400) (va_cwS 3 hts gX4_setThreshold_X4_in rfl rfl rfl (by decide +kernel) ⟨Nat.le_of_ble_eq_true rfl, Nat.le_of_ble_eq_true rfl⟩) preT rfl rfl hl.1 rfl (lv_room (Nat.le_of_ble_eq_true rfl)) dX4_setThreshold_13 ⟨Nat.le_of_ble_eq_true rfl, Nat.le_of_ble_eq_true rfl⟩) hI hS (fun H locs hI hS => ?_)
    refine r_ifne_b (tgt := 23) hx hb dX4_setThreshold_16 (by decide) (fun c16_3 => ?_) (fun c16_3 => ?_)
    · refine lv_iconst (v := 0) hx hb dX4_setThreshold_23 (by decide) ?_
      have hS := hS.mono (B := qA 18 q) (fun _ h => h.elim)
      refine rw_i (w' := wM cy q A (uS S 5 0)) (va_runV (As := [.int 0]) (rest := []) ⟨hx, hb, hml, hown, hts⟩ (c_X4_fails l D cy h0 q A S 0) (cwV 1 hts gX4_setThreshold_X4_fails rfl rfl rfl (by decide +kernel) ⟨Nat.le_of_ble_eq_true rfl, Nat.le_of_ble_eq_true rfl⟩) (hI.preV (k0 := 0) rfl rfl) rfl rfl hl.1 rfl (lv_room (Nat.le_of_ble_eq_true rfl)) dX4_setThreshold_24 ⟨Nat.le_of_ble_eq_true rfl, Nat.le_of_ble_eq_true rfl⟩) hI hS (fun _ h => h) hqA (fun H locs hI hS => ?_)
      rw [show (bI (failsB 0)) = 0 from (by decide)]
      refine lv_if_eq (tgt := 32) hx hb dX4_setThreshold_27 (by decide) (fun c27_4 => ?_) (fun c27_4 => ?_)
      rotate_left
      · exact absurd c27_4 (by decide)
      refine lv_aload_n hx hb dX4_setThreshold_32 rfl (lv_at hl 0 rfl) ?_
      refine r_get (C := RX4) (T := TX4) (N := 23) (k := 1) (q0 := 0) (v := .ref (q 2)) hx hb hts hi4 hown hI rfl rfl (by decide) (hts (.fieldLink RX4 13 "BuildlotsModel" "thresholds" "[I") (List.mem_of_getElem? (i := 1) rfl)) rfl rfl dX4_setThreshold_33 ?_
      refine lv_iload_n hx hb dX4_setThreshold_36 rfl (lv_at hl 1 rfl) ?_
      refine r_iald (q0 := 2) (j := (ix name)) (n := 5) (f := (A 1)) hx hb hI rfl hk_name (by omega) (by decide) dX4_setThreshold_37 ?_
      refine lv_istore_n (lv' := [(3, .int (A 1 (ix name))), (0, .ref (q 0)), (1, .int name), (2, .int thr)]) hx hb dX4_setThreshold_38 rfl hl (by decide) rfl (fun ls hl => ?_)
      refine lv_aload_n hx hb dX4_setThreshold_39 rfl (lv_at hl 1 rfl) ?_
      refine r_get (C := RX4) (T := TX4) (N := 23) (k := 1) (q0 := 0) (v := .ref (q 2)) hx hb hts hi4 hown hI rfl rfl (by decide) (hts (.fieldLink RX4 13 "BuildlotsModel" "thresholds" "[I") (List.mem_of_getElem? (i := 1) rfl)) rfl rfl dX4_setThreshold_40 ?_
      refine lv_iload_n hx hb dX4_setThreshold_43 rfl (lv_at hl 2 rfl) ?_
      refine lv_iload_n hx hb dX4_setThreshold_44 rfl (lv_at hl 3 rfl) ?_
      refine r_iast (w' := wM cy q (uA A 1 (upd (A 1) (ix name) thr)) (uS S 5 0)) (q0 := 2) (j := (ix name)) (n := 5) (f := (A 1)) hx hb hI hS hqA hh0 (qA_M hI) rfl hk_name (by omega) (by decide) dX4_setThreshold_45 rfl (fun H locs hI hS => ?_)
      refine lv_iload_n hx hb dX4_setThreshold_46 rfl (lv_at hl 0 rfl) ?_
      rw [show wM cy q (uA A 1 (upd (A 1) (ix name) thr)) (uS S 5 0) = wM cy q (if mcSetThr name thr = 0 then uA A 1 (upd (A 1) (ix name) thr) else A) (uS S 5 (mcSetThr name thr)) from (wM_A (by first | rfl | (simp only [mcSetThr, bI, c5_1, c16_3,  ↓reduceIte, Bool.false_eq_true, reduceCtorEq, i10, i20, i30, i40]; done) | simp [mcSetThr, bI, c5_1, c16_3, ]) (by first | rfl | (simp only [mcSetThr, bI, c5_1, c16_3,  ↓reduceIte, Bool.false_eq_true, reduceCtorEq, i10, i20, i30, i40]; done) | simp [mcSetThr, bI, c5_1, c16_3, ]))] at hI
      exact end_rwi hx hb hr (by first | (simp only [mcSetThr, bI, c5_1, c16_3,  ↓reduceIte, Bool.false_eq_true, reduceCtorEq, i10, i20, i30, i40]; done) | simp [mcSetThr, bI, c5_1, c16_3, ]) hI hS dX4_setThreshold_47 hlk
    · refine lv_iconst (v := 1) hx hb dX4_setThreshold_19 (by decide) ?_
      refine lv_goto (tgt := 24) hx hb dX4_setThreshold_20 (by decide) ?_
      have hS := hS.mono (B := qA 18 q) (fun _ h => h.elim)
      refine rw_i (w' := wM cy q A (uS S 5 1)) (va_runV (As := [.int 1]) (rest := []) ⟨hx, hb, hml, hown, hts⟩ (c_X4_fails l D cy h0 q A S 1) (cwV 1 hts gX4_setThreshold_X4_fails rfl rfl rfl (by decide +kernel) ⟨Nat.le_of_ble_eq_true rfl, Nat.le_of_ble_eq_true rfl⟩) (hI.preV (k0 := 0) rfl rfl) rfl rfl hl.1 rfl (lv_room (Nat.le_of_ble_eq_true rfl)) dX4_setThreshold_24 ⟨Nat.le_of_ble_eq_true rfl, Nat.le_of_ble_eq_true rfl⟩) hI hS (fun _ h => h) hqA (fun H locs hI hS => ?_)
      rw [show (bI (failsB 1)) = 1 from (by decide)]
      refine lv_if_eq (tgt := 32) hx hb dX4_setThreshold_27 (by decide) (fun c27_5 => ?_) (fun c27_5 => ?_)
      · exact absurd c27_5 (by decide)
      refine lv_iconst (v := 0) hx hb dX4_setThreshold_30 (by decide) ?_
      rw [show wM cy q A (uS S 5 1) = wM cy q (if mcSetThr name thr = 0 then uA A 1 (upd (A 1) (ix name) thr) else A) (uS S 5 (mcSetThr name thr)) from (wM_A (by first | rfl | (simp only [mcSetThr, bI, c5_1, c16_3,  ↓reduceIte, Bool.false_eq_true, reduceCtorEq, i10, i20, i30, i40]; done) | simp [mcSetThr, bI, c5_1, c16_3, ]) (by first | rfl | (simp only [mcSetThr, bI, c5_1, c16_3,  ↓reduceIte, Bool.false_eq_true, reduceCtorEq, i10, i20, i30, i40]; done) | simp [mcSetThr, bI, c5_1, c16_3, ]))] at hI
      exact end_rwi hx hb hr (by first | (simp only [mcSetThr, bI, c5_1, c16_3,  ↓reduceIte, Bool.false_eq_true, reduceCtorEq, i10, i20, i30, i40]; done) | simp [mcSetThr, bI, c5_1, c16_3, ]) hI hS dX4_setThreshold_31 hlk

set_option maxHeartbeats 4000000 in
set_option maxRecDepth 100000 in
theorem c_X4_nameOf (l : Launch) (D : va_G) (cy : Nat → ClassId) (h0 : Nat) (q : Nat → Nat) (A : Nat → Nat → Int32) (S : Nat → Int32) (b : Int32) (nb : Nat) (hnb : nb ≤ 24) (hcb : S 1 = nI nb) : Met l yX4_nameOf wsX4_nameOf (rmO 3 43) (va_Pc [.ref (q 0), .int b] (pI D cy h0 (wM cy q A S))) (rwI (if mcR b nb = 0 then A 6 (ix b) else 0) D cy h0 (wM cy q A (uS S 5 (mcR b nb))) (qA 18 q)) 0 0 (qA 18 q) := by
  refine Met.ofW (cc := cX4_nameOf) (maxL := 2) (ret := (some .int)) (by decide) rfl ?_
  intro p e s m args below meth c s₁ B hml hv
  obtain ⟨rfl, hI⟩ := hv
  have hx := B.exec
  have hb := B.bytes
  have hr := B.returns
  have hts := atoms_spec (ws := wsX4_nameOf) B.pre
  have hown : s.vm.findClass RX4 = some m.cls := findClass_of_methodNamed B.named
  have hlk := B.notSynchronized
  have hI : IH D cy h0 (wM cy q A S) s s.heap := hI
  have hG := hI.1
  have hqA := hA_M hI
  have hh0 : h0 ≤ s.heap.size := hI.1.2.2.2
  have hS : va_S nof s.heap s.heap [] := va_S.rf
  have hi4 : ∀ w ∈ wsX40, w ∈ wsX4_nameOf := by decide +kernel
  have hl := lv_entry ([.ref (q 0), .int b]) (n := 2) (Nat.le_of_ble_eq_true rfl)
  rw [lg_entry_eq]
  generalize (lg_sl ([.ref (q 0), .int b]) ++ List.replicate (2 - (lg_sl ([.ref (q 0), .int b])).length) Slot.unset).toArray = ls at hl ⊢
  have hl : lv_has ls 2 [(0, .ref (q 0)), (1, .int b)] := hl
  refine lv_aload_n hx hb dX4_nameOf_0 rfl (lv_at hl 0 rfl) ?_
  refine lv_iload_n hx hb dX4_nameOf_1 rfl (lv_at hl 1 rfl) ?_
  have hS := hS.mono (B := qA 18 q) (fun _ h => h.elim)
  refine rw_i (w' := wM cy q A (uS S 5 (bI (noR b nb)))) (va_runV (As := [.int b]) (rest := []) ⟨hx, hb, hml, hown, hts⟩ (c_X4_isNoBuild l D cy h0 q A S b nb hnb hcb) (cwV 1 hts gX4_nameOf_X4_isNoBuild rfl rfl rfl (by decide +kernel) ⟨Nat.le_of_ble_eq_true rfl, Nat.le_of_ble_eq_true rfl⟩) (hI.preV (k0 := 0) rfl rfl) rfl rfl hl.1 rfl (lv_room (Nat.le_of_ble_eq_true rfl)) dX4_nameOf_2 ⟨Nat.le_of_ble_eq_true rfl, Nat.le_of_ble_eq_true rfl⟩) hI hS (fun _ h => h) hqA (fun H locs hI hS => ?_)
  refine r_ifeq_b (tgt := 12) hx hb dX4_nameOf_5 (by decide) (fun c5_1 => ?_) (fun c5_1 => ?_)
  · obtain ⟨hj_b, hk_b⟩ := noR_c (by omega) c5_1
    refine lv_aload_n hx hb dX4_nameOf_12 rfl (lv_at hl 0 rfl) ?_
    refine r_get (C := RX4) (T := TX4) (N := 23) (k := 8) (q0 := 0) (v := .ref (q 7)) hx hb hts hi4 hown hI rfl rfl (by decide) (hts (.fieldLink RX4 29 "BuildlotsModel" "names" "[I") (List.mem_of_getElem? (i := 1) rfl)) rfl rfl dX4_nameOf_13 ?_
    refine lv_iload_n hx hb dX4_nameOf_16 rfl (lv_at hl 1 rfl) ?_
    refine r_iald (q0 := 7) (j := (ix b)) (n := 24) (f := (A 6)) hx hb hI rfl hk_b (by omega) (by decide) dX4_nameOf_17 ?_
    rw [show wM cy q A (uS S 5 (bI (noR b nb))) = wM cy q A (uS S 5 (mcR b nb)) from (wM_A (by first | rfl | (simp only [mcR, bI, c5_1,  ↓reduceIte, Bool.false_eq_true, reduceCtorEq, i10, i20, i30, i40]; done) | simp [mcR, bI, c5_1, ]) (by first | rfl | (simp only [mcR, bI, c5_1,  ↓reduceIte, Bool.false_eq_true, reduceCtorEq, i10, i20, i30, i40]; done) | simp [mcR, bI, c5_1, ]))] at hI
    exact end_rwi hx hb hr (by first | (simp only [mcR, bI, c5_1,  ↓reduceIte, Bool.false_eq_true, reduceCtorEq, i10, i20, i30, i40]; done) | simp [mcR, bI, c5_1, ]) hI hS dX4_nameOf_18 hlk
  · refine lv_iconst (v := 0) hx hb dX4_nameOf_8 (by decide) ?_
    refine lv_goto (tgt := 18) hx hb dX4_nameOf_9 (by decide) ?_
    rw [show wM cy q A (uS S 5 (bI (noR b nb))) = wM cy q A (uS S 5 (mcR b nb)) from (wM_A (by first | rfl | (simp only [mcR, bI, c5_1,  ↓reduceIte, Bool.false_eq_true, reduceCtorEq, i10, i20, i30, i40]; done) | simp [mcR, bI, c5_1, ]) (by first | rfl | (simp only [mcR, bI, c5_1,  ↓reduceIte, Bool.false_eq_true, reduceCtorEq, i10, i20, i30, i40]; done) | simp [mcR, bI, c5_1, ]))] at hI
    exact end_rwi hx hb hr (by first | (simp only [mcR, bI, c5_1,  ↓reduceIte, Bool.false_eq_true, reduceCtorEq, i10, i20, i30, i40]; done) | simp [mcR, bI, c5_1, ]) hI hS dX4_nameOf_18 hlk

set_option maxHeartbeats 4000000 in
set_option maxRecDepth 100000 in
theorem c_X4_version (l : Launch) (D : va_G) (cy : Nat → ClassId) (h0 : Nat) (q : Nat → Nat) (A : Nat → Nat → Int32) (S : Nat → Int32) (b : Int32) (nb : Nat) (hnb : nb ≤ 24) (hcb : S 1 = nI nb) : Met l yX4_version wsX4_version (rmO 3 43) (va_Pc [.ref (q 0), .int b] (pI D cy h0 (wM cy q A S))) (rwI (if mcR b nb = 0 then A 7 (ix b) else 0) D cy h0 (wM cy q A (uS S 5 (mcR b nb))) (qA 18 q)) 0 0 (qA 18 q) := by
  refine Met.ofW (cc := cX4_version) (maxL := 2) (ret := (some .int)) (by decide) rfl ?_
  intro p e s m args below meth c s₁ B hml hv
  obtain ⟨rfl, hI⟩ := hv
  have hx := B.exec
  have hb := B.bytes
  have hr := B.returns
  have hts := atoms_spec (ws := wsX4_version) B.pre
  have hown : s.vm.findClass RX4 = some m.cls := findClass_of_methodNamed B.named
  have hlk := B.notSynchronized
  have hI : IH D cy h0 (wM cy q A S) s s.heap := hI
  have hG := hI.1
  have hqA := hA_M hI
  have hh0 : h0 ≤ s.heap.size := hI.1.2.2.2
  have hS : va_S nof s.heap s.heap [] := va_S.rf
  have hi4 : ∀ w ∈ wsX40, w ∈ wsX4_version := by decide +kernel
  have hl := lv_entry ([.ref (q 0), .int b]) (n := 2) (Nat.le_of_ble_eq_true rfl)
  rw [lg_entry_eq]
  generalize (lg_sl ([.ref (q 0), .int b]) ++ List.replicate (2 - (lg_sl ([.ref (q 0), .int b])).length) Slot.unset).toArray = ls at hl ⊢
  have hl : lv_has ls 2 [(0, .ref (q 0)), (1, .int b)] := hl
  refine lv_aload_n hx hb dX4_version_0 rfl (lv_at hl 0 rfl) ?_
  refine lv_iload_n hx hb dX4_version_1 rfl (lv_at hl 1 rfl) ?_
  have hS := hS.mono (B := qA 18 q) (fun _ h => h.elim)
  refine rw_i (w' := wM cy q A (uS S 5 (bI (noR b nb)))) (va_runV (As := [.int b]) (rest := []) ⟨hx, hb, hml, hown, hts⟩ (c_X4_isNoBuild l D cy h0 q A S b nb hnb hcb) (cwV 1 hts gX4_version_X4_isNoBuild rfl rfl rfl (by decide +kernel) ⟨Nat.le_of_ble_eq_true rfl, Nat.le_of_ble_eq_true rfl⟩) (hI.preV (k0 := 0) rfl rfl) rfl rfl hl.1 rfl (lv_room (Nat.le_of_ble_eq_true rfl)) dX4_version_2 ⟨Nat.le_of_ble_eq_true rfl, Nat.le_of_ble_eq_true rfl⟩) hI hS (fun _ h => h) hqA (fun H locs hI hS => ?_)
  refine r_ifeq_b (tgt := 12) hx hb dX4_version_5 (by decide) (fun c5_1 => ?_) (fun c5_1 => ?_)
  · obtain ⟨hj_b, hk_b⟩ := noR_c (by omega) c5_1
    refine lv_aload_n hx hb dX4_version_12 rfl (lv_at hl 0 rfl) ?_
    refine r_get (C := RX4) (T := TX4) (N := 23) (k := 9) (q0 := 0) (v := .ref (q 8)) hx hb hts hi4 hown hI rfl rfl (by decide) (hts (.fieldLink RX4 32 "BuildlotsModel" "versions" "[I") (List.mem_of_getElem? (i := 1) rfl)) rfl rfl dX4_version_13 ?_
    refine lv_iload_n hx hb dX4_version_16 rfl (lv_at hl 1 rfl) ?_
    refine r_iald (q0 := 8) (j := (ix b)) (n := 24) (f := (A 7)) hx hb hI rfl hk_b (by omega) (by decide) dX4_version_17 ?_
    rw [show wM cy q A (uS S 5 (bI (noR b nb))) = wM cy q A (uS S 5 (mcR b nb)) from (wM_A (by first | rfl | (simp only [mcR, bI, c5_1,  ↓reduceIte, Bool.false_eq_true, reduceCtorEq, i10, i20, i30, i40]; done) | simp [mcR, bI, c5_1, ]) (by first | rfl | (simp only [mcR, bI, c5_1,  ↓reduceIte, Bool.false_eq_true, reduceCtorEq, i10, i20, i30, i40]; done) | simp [mcR, bI, c5_1, ]))] at hI
    exact end_rwi hx hb hr (by first | (simp only [mcR, bI, c5_1,  ↓reduceIte, Bool.false_eq_true, reduceCtorEq, i10, i20, i30, i40]; done) | simp [mcR, bI, c5_1, ]) hI hS dX4_version_18 hlk
  · refine lv_iconst (v := 0) hx hb dX4_version_8 (by decide) ?_
    refine lv_goto (tgt := 18) hx hb dX4_version_9 (by decide) ?_
    rw [show wM cy q A (uS S 5 (bI (noR b nb))) = wM cy q A (uS S 5 (mcR b nb)) from (wM_A (by first | rfl | (simp only [mcR, bI, c5_1,  ↓reduceIte, Bool.false_eq_true, reduceCtorEq, i10, i20, i30, i40]; done) | simp [mcR, bI, c5_1, ]) (by first | rfl | (simp only [mcR, bI, c5_1,  ↓reduceIte, Bool.false_eq_true, reduceCtorEq, i10, i20, i30, i40]; done) | simp [mcR, bI, c5_1, ]))] at hI
    exact end_rwi hx hb hr (by first | (simp only [mcR, bI, c5_1,  ↓reduceIte, Bool.false_eq_true, reduceCtorEq, i10, i20, i30, i40]; done) | simp [mcR, bI, c5_1, ]) hI hS dX4_version_18 hlk

set_option maxHeartbeats 4000000 in
set_option maxRecDepth 100000 in
theorem c_X4_uses (l : Launch) (D : va_G) (cy : Nat → ClassId) (h0 : Nat) (q : Nat → Nat) (A : Nat → Nat → Int32) (S : Nat → Int32) (b : Int32) (o : Int32) (nb : Nat) (hnb : nb ≤ 24) (hcb : S 1 = nI nb) : Met l yX4_uses wsX4_uses (rmO 2 22) (va_Pc [.ref (q 0), .int b, .int o] (pI D cy h0 (wM cy q A S))) (rwI (bI (decide (mcUses b o nb = 0) && decide ((A 8 (ix b) >>> (o &&& 31)) &&& 1 = 1))) D cy h0 (wM cy q A (uS S 5 (mcUses b o nb))) (qA 18 q)) 0 0 (qA 18 q) := by
  refine Met.ofW (cc := cX4_uses) (maxL := 3) (ret := (some .boolean)) (by decide) rfl ?_
  intro p e s m args below meth c s₁ B hml hv
  obtain ⟨rfl, hI⟩ := hv
  have hx := B.exec
  have hb := B.bytes
  have hr := B.returns
  have hts := atoms_spec (ws := wsX4_uses) B.pre
  have hown : s.vm.findClass RX4 = some m.cls := findClass_of_methodNamed B.named
  have hlk := B.notSynchronized
  have hI : IH D cy h0 (wM cy q A S) s s.heap := hI
  have hG := hI.1
  have hqA := hA_M hI
  have hh0 : h0 ≤ s.heap.size := hI.1.2.2.2
  have hS : va_S nof s.heap s.heap [] := va_S.rf
  have hi4 : ∀ w ∈ wsX40, w ∈ wsX4_uses := by decide +kernel
  have hl := lv_entry ([.ref (q 0), .int b, .int o]) (n := 3) (Nat.le_of_ble_eq_true rfl)
  rw [lg_entry_eq]
  generalize (lg_sl ([.ref (q 0), .int b, .int o]) ++ List.replicate (3 - (lg_sl ([.ref (q 0), .int b, .int o])).length) Slot.unset).toArray = ls at hl ⊢
  have hl : lv_has ls 3 [(0, .ref (q 0)), (1, .int b), (2, .int o)] := hl
  refine lv_aload_n hx hb dX4_uses_0 rfl (lv_at hl 0 rfl) ?_
  refine lv_iload_n hx hb dX4_uses_1 rfl (lv_at hl 1 rfl) ?_
  refine lv_iconst (v := 0) hx hb dX4_uses_2 (by decide) ?_
  refine lv_aload_n hx hb dX4_uses_3 rfl (lv_at hl 0 rfl) ?_
  refine r_get (C := RX4) (T := TX4) (N := 23) (k := 7) (q0 := 0) (v := .int (S 1)) hx hb hts hi4 hown hI rfl rfl (by decide) (hts (.fieldLink RX4 80 "BuildlotsModel" "builds" "I") (List.mem_of_getElem? (i := 1) rfl)) rfl rfl dX4_uses_4 ?_
  refine lv_iconst (v := 1) hx hb dX4_uses_7 (by decide) ?_
  refine lv_isub hx hb dX4_uses_8 ?_
  refine ro_i (va_runS (As := [.int b, .int 0, .int ((S 1) - 1)]) (rest := [.ref (q 0)]) ⟨hx, hb, hml, hown, hts⟩ (c_X4_in l b 0 ((S 1) - 1)) (va_cwS 3 hts gX4_uses_X4_in rfl rfl rfl (by decide +kernel) ⟨Nat.le_of_ble_eq_true rfl, Nat.le_of_ble_eq_true rfl⟩) preT rfl rfl hl.1 rfl (lv_room (Nat.le_of_ble_eq_true rfl)) dX4_uses_9 ⟨Nat.le_of_ble_eq_true rfl, Nat.le_of_ble_eq_true rfl⟩) hI hS (fun H locs hI hS => ?_)
  rw [show (bI (inB b 0 ((S 1) - 1))) = bI (inR b nb) from (congrArg bI (inB_R hcb (by omega)))]
  refine r_ifeq_b (tgt := 33) hx hb dX4_uses_12 (by decide) (fun c12_1 => ?_) (fun c12_1 => ?_)
  · refine lv_iconst (v := 1) hx hb dX4_uses_33 (by decide) ?_
    have hS := hS.mono (B := qA 18 q) (fun _ h => h.elim)
    refine rw_i (w' := wM cy q A (uS S 5 1)) (va_runV (As := [.int 1]) (rest := []) ⟨hx, hb, hml, hown, hts⟩ (c_X4_fails l D cy h0 q A S 1) (cwV 1 hts gX4_uses_X4_fails rfl rfl rfl (by decide +kernel) ⟨Nat.le_of_ble_eq_true rfl, Nat.le_of_ble_eq_true rfl⟩) (hI.preV (k0 := 0) rfl rfl) rfl rfl hl.1 rfl (lv_room (Nat.le_of_ble_eq_true rfl)) dX4_uses_34 ⟨Nat.le_of_ble_eq_true rfl, Nat.le_of_ble_eq_true rfl⟩) hI hS (fun _ h => h) hqA (fun H locs hI hS => ?_)
    rw [show (bI (failsB 1)) = 1 from (by decide)]
    refine lv_if_ne (tgt := 58) hx hb dX4_uses_37 (by decide) (fun c37_2 => ?_) (fun c37_2 => ?_)
    rotate_left
    · exact absurd c37_2 (by decide)
    refine lv_iconst (v := 0) hx hb dX4_uses_58 (by decide) ?_
    rw [show wM cy q A (uS S 5 1) = wM cy q A (uS S 5 (mcUses b o nb)) from (wM_A (by first | rfl | (simp only [bI, mcUses, c12_1,  ↓reduceIte, Bool.false_eq_true, reduceCtorEq, i10, i20, i30, i40]; done) | simp [bI, mcUses, c12_1, ]) (by first | rfl | (simp only [bI, mcUses, c12_1,  ↓reduceIte, Bool.false_eq_true, reduceCtorEq, i10, i20, i30, i40]; done) | simp [bI, mcUses, c12_1, ]))] at hI
    exact end_rwz hx hb hr rfl (by first | (simp only [bI, mcUses, c12_1,  ↓reduceIte, Bool.false_eq_true, reduceCtorEq, i10, i20, i30, i40]; done) | simp [bI, mcUses, c12_1, ]) hI hS dX4_uses_59 hlk
  · obtain ⟨hj_b, hk_b⟩ := inR_c (by omega) c12_1
    refine lv_iload_n hx hb dX4_uses_15 rfl (lv_at hl 2 rfl) ?_
    refine lv_iconst (v := 0) hx hb dX4_uses_16 (by decide) ?_
    refine lv_aload_n hx hb dX4_uses_17 rfl (lv_at hl 0 rfl) ?_
    refine r_get (C := RX4) (T := TX4) (N := 23) (k := 7) (q0 := 0) (v := .int (S 1)) hx hb hts hi4 hown hI rfl rfl (by decide) (hts (.fieldLink RX4 80 "BuildlotsModel" "builds" "I") (List.mem_of_getElem? (i := 1) rfl)) rfl rfl dX4_uses_18 ?_
    refine lv_iconst (v := 1) hx hb dX4_uses_21 (by decide) ?_
    refine lv_isub hx hb dX4_uses_22 ?_
    refine ro_i (va_runS (As := [.int o, .int 0, .int ((S 1) - 1)]) (rest := [.ref (q 0)]) ⟨hx, hb, hml, hown, hts⟩ (c_X4_in l o 0 ((S 1) - 1)) (va_cwS 3 hts gX4_uses_X4_in rfl rfl rfl (by decide +kernel) ⟨Nat.le_of_ble_eq_true rfl, Nat.le_of_ble_eq_true rfl⟩) preT rfl rfl hl.1 rfl (lv_room (Nat.le_of_ble_eq_true rfl)) dX4_uses_23 ⟨Nat.le_of_ble_eq_true rfl, Nat.le_of_ble_eq_true rfl⟩) hI hS (fun H locs hI hS => ?_)
    rw [show (bI (inB o 0 ((S 1) - 1))) = bI (inR o nb) from (congrArg bI (inB_R hcb (by omega)))]
    refine r_ifeq_b (tgt := 33) hx hb dX4_uses_26 (by decide) (fun c26_3 => ?_) (fun c26_3 => ?_)
    · refine lv_iconst (v := 1) hx hb dX4_uses_33 (by decide) ?_
      have hS := hS.mono (B := qA 18 q) (fun _ h => h.elim)
      refine rw_i (w' := wM cy q A (uS S 5 1)) (va_runV (As := [.int 1]) (rest := []) ⟨hx, hb, hml, hown, hts⟩ (c_X4_fails l D cy h0 q A S 1) (cwV 1 hts gX4_uses_X4_fails rfl rfl rfl (by decide +kernel) ⟨Nat.le_of_ble_eq_true rfl, Nat.le_of_ble_eq_true rfl⟩) (hI.preV (k0 := 0) rfl rfl) rfl rfl hl.1 rfl (lv_room (Nat.le_of_ble_eq_true rfl)) dX4_uses_34 ⟨Nat.le_of_ble_eq_true rfl, Nat.le_of_ble_eq_true rfl⟩) hI hS (fun _ h => h) hqA (fun H locs hI hS => ?_)
      rw [show (bI (failsB 1)) = 1 from (by decide)]
      refine lv_if_ne (tgt := 58) hx hb dX4_uses_37 (by decide) (fun c37_4 => ?_) (fun c37_4 => ?_)
      rotate_left
      · exact absurd c37_4 (by decide)
      refine lv_iconst (v := 0) hx hb dX4_uses_58 (by decide) ?_
      rw [show wM cy q A (uS S 5 1) = wM cy q A (uS S 5 (mcUses b o nb)) from (wM_A (by first | rfl | (simp only [bI, mcUses, c12_1, c26_3,  ↓reduceIte, Bool.false_eq_true, reduceCtorEq, i10, i20, i30, i40]; done) | simp [bI, mcUses, c12_1, c26_3, ]) (by first | rfl | (simp only [bI, mcUses, c12_1, c26_3,  ↓reduceIte, Bool.false_eq_true, reduceCtorEq, i10, i20, i30, i40]; done) | simp [bI, mcUses, c12_1, c26_3, ]))] at hI
      exact end_rwz hx hb hr rfl (by first | (simp only [bI, mcUses, c12_1, c26_3,  ↓reduceIte, Bool.false_eq_true, reduceCtorEq, i10, i20, i30, i40]; done) | simp [bI, mcUses, c12_1, c26_3, ]) hI hS dX4_uses_59 hlk
    · obtain ⟨hj_o, hk_o⟩ := inR_c (by omega) c26_3
      refine lv_iconst (v := 0) hx hb dX4_uses_29 (by decide) ?_
      refine lv_goto (tgt := 34) hx hb dX4_uses_30 (by decide) ?_
      have hS := hS.mono (B := qA 18 q) (fun _ h => h.elim)
      refine rw_i (w' := wM cy q A (uS S 5 0)) (va_runV (As := [.int 0]) (rest := []) ⟨hx, hb, hml, hown, hts⟩ (c_X4_fails l D cy h0 q A S 0) (cwV 1 hts gX4_uses_X4_fails rfl rfl rfl (by decide +kernel) ⟨Nat.le_of_ble_eq_true rfl, Nat.le_of_ble_eq_true rfl⟩) (hI.preV (k0 := 0) rfl rfl) rfl rfl hl.1 rfl (lv_room (Nat.le_of_ble_eq_true rfl)) dX4_uses_34 ⟨Nat.le_of_ble_eq_true rfl, Nat.le_of_ble_eq_true rfl⟩) hI hS (fun _ h => h) hqA (fun H locs hI hS => ?_)
      rw [show (bI (failsB 0)) = 0 from (by decide)]
      refine lv_if_ne (tgt := 58) hx hb dX4_uses_37 (by decide) (fun c37_5 => ?_) (fun c37_5 => ?_)
      · exact absurd c37_5 (by decide)
      refine lv_aload_n hx hb dX4_uses_40 rfl (lv_at hl 0 rfl) ?_
      refine r_get (C := RX4) (T := TX4) (N := 23) (k := 10) (q0 := 0) (v := .ref (q 9)) hx hb hts hi4 hown hI rfl rfl (by decide) (hts (.fieldLink RX4 35 "BuildlotsModel" "used" "[I") (List.mem_of_getElem? (i := 2) rfl)) rfl rfl dX4_uses_41 ?_
      refine lv_iload_n hx hb dX4_uses_44 rfl (lv_at hl 1 rfl) ?_
      refine r_iald (q0 := 9) (j := (ix b)) (n := 24) (f := (A 8)) hx hb hI rfl hk_b (by omega) (by decide) dX4_uses_45 ?_
      refine lv_iload_n hx hb dX4_uses_46 rfl (lv_at hl 2 rfl) ?_
      refine lv_ishr hx hb dX4_uses_47 ?_
      refine lv_iconst (v := 1) hx hb dX4_uses_48 (by decide) ?_
      refine lv_iand hx hb dX4_uses_49 ?_
      refine lv_iconst (v := 1) hx hb dX4_uses_50 (by decide) ?_
      refine lv_icmp_ne (tgt := 58) hx hb dX4_uses_51 (by decide) (fun c51_6 => ?_) (fun c51_6 => ?_)
      · refine lv_iconst (v := 0) hx hb dX4_uses_58 (by decide) ?_
        rw [show wM cy q A (uS S 5 0) = wM cy q A (uS S 5 (mcUses b o nb)) from (wM_A (by first | rfl | (simp only [bI, mcUses, c12_1, c26_3, c51_6,  ↓reduceIte, Bool.false_eq_true, reduceCtorEq, i10, i20, i30, i40]; done) | simp [bI, mcUses, c12_1, c26_3, c51_6, ]) (by first | rfl | (simp only [bI, mcUses, c12_1, c26_3, c51_6,  ↓reduceIte, Bool.false_eq_true, reduceCtorEq, i10, i20, i30, i40]; done) | simp [bI, mcUses, c12_1, c26_3, c51_6, ]))] at hI
        exact end_rwz hx hb hr rfl (by first | (simp only [bI, mcUses, c12_1, c26_3, c51_6,  ↓reduceIte, Bool.false_eq_true, reduceCtorEq, i10, i20, i30, i40]; done) | simp [bI, mcUses, c12_1, c26_3, c51_6, ]) hI hS dX4_uses_59 hlk
      · refine lv_iconst (v := 1) hx hb dX4_uses_54 (by decide) ?_
        refine lv_goto (tgt := 59) hx hb dX4_uses_55 (by decide) ?_
        rw [show wM cy q A (uS S 5 0) = wM cy q A (uS S 5 (mcUses b o nb)) from (wM_A (by first | rfl | (simp only [bI, mcUses, c12_1, c26_3, c51_6,  ↓reduceIte, Bool.false_eq_true, reduceCtorEq, i10, i20, i30, i40]; done) | simp [bI, mcUses, c12_1, c26_3, c51_6, ]) (by first | rfl | (simp only [bI, mcUses, c12_1, c26_3, c51_6,  ↓reduceIte, Bool.false_eq_true, reduceCtorEq, i10, i20, i30, i40]; done) | simp [bI, mcUses, c12_1, c26_3, c51_6, ]))] at hI
        exact end_rwz hx hb hr rfl (by first | (simp only [bI, mcUses, c12_1, c26_3, c51_6,  ↓reduceIte, Bool.false_eq_true, reduceCtorEq, i10, i20, i30, i40]; done) | simp [bI, mcUses, c12_1, c26_3, c51_6, ]) hI hS dX4_uses_59 hlk

set_option maxHeartbeats 4000000 in
set_option maxRecDepth 100000 in
theorem c_X4_used (l : Launch) (D : va_G) (cy : Nat → ClassId) (h0 : Nat) (q : Nat → Nat) (A : Nat → Nat → Int32) (S : Nat → Int32) (b : Int32) (nb : Nat) (hnb : nb ≤ 24) (hcb : S 1 = nI nb) : Met l yX4_used wsX4_used (rmO 3 43) (va_Pc [.ref (q 0), .int b] (pI D cy h0 (wM cy q A S))) (rwI (if mcR b nb = 0 then btF (A 8 (ix b)) 24 else 0) D cy h0 (wM cy q A (uS S 5 (mcR b nb))) (qA 18 q)) 0 0 (qA 18 q) := by
  refine Met.ofW (cc := cX4_used) (maxL := 2) (ret := (some .int)) (by decide) rfl ?_
  intro p e s m args below meth c s₁ B hml hv
  obtain ⟨rfl, hI⟩ := hv
  have hx := B.exec
  have hb := B.bytes
  have hr := B.returns
  have hts := atoms_spec (ws := wsX4_used) B.pre
  have hown : s.vm.findClass RX4 = some m.cls := findClass_of_methodNamed B.named
  have hlk := B.notSynchronized
  have hI : IH D cy h0 (wM cy q A S) s s.heap := hI
  have hG := hI.1
  have hqA := hA_M hI
  have hh0 : h0 ≤ s.heap.size := hI.1.2.2.2
  have hS : va_S nof s.heap s.heap [] := va_S.rf
  have hi4 : ∀ w ∈ wsX40, w ∈ wsX4_used := by decide +kernel
  have hl := lv_entry ([.ref (q 0), .int b]) (n := 2) (Nat.le_of_ble_eq_true rfl)
  rw [lg_entry_eq]
  generalize (lg_sl ([.ref (q 0), .int b]) ++ List.replicate (2 - (lg_sl ([.ref (q 0), .int b])).length) Slot.unset).toArray = ls at hl ⊢
  have hl : lv_has ls 2 [(0, .ref (q 0)), (1, .int b)] := hl
  refine lv_aload_n hx hb dX4_used_0 rfl (lv_at hl 0 rfl) ?_
  refine lv_iload_n hx hb dX4_used_1 rfl (lv_at hl 1 rfl) ?_
  have hS := hS.mono (B := qA 18 q) (fun _ h => h.elim)
  refine rw_i (w' := wM cy q A (uS S 5 (bI (noR b nb)))) (va_runV (As := [.int b]) (rest := []) ⟨hx, hb, hml, hown, hts⟩ (c_X4_isNoBuild l D cy h0 q A S b nb hnb hcb) (cwV 1 hts gX4_used_X4_isNoBuild rfl rfl rfl (by decide +kernel) ⟨Nat.le_of_ble_eq_true rfl, Nat.le_of_ble_eq_true rfl⟩) (hI.preV (k0 := 0) rfl rfl) rfl rfl hl.1 rfl (lv_room (Nat.le_of_ble_eq_true rfl)) dX4_used_2 ⟨Nat.le_of_ble_eq_true rfl, Nat.le_of_ble_eq_true rfl⟩) hI hS (fun _ h => h) hqA (fun H locs hI hS => ?_)
  refine r_ifeq_b (tgt := 12) hx hb dX4_used_5 (by decide) (fun c5_1 => ?_) (fun c5_1 => ?_)
  · obtain ⟨hj_b, hk_b⟩ := noR_c (by omega) c5_1
    refine lv_aload_n hx hb dX4_used_12 rfl (lv_at hl 0 rfl) ?_
    refine r_get (C := RX4) (T := TX4) (N := 23) (k := 10) (q0 := 0) (v := .ref (q 9)) hx hb hts hi4 hown hI rfl rfl (by decide) (hts (.fieldLink RX4 35 "BuildlotsModel" "used" "[I") (List.mem_of_getElem? (i := 1) rfl)) rfl rfl dX4_used_13 ?_
    refine lv_iload_n hx hb dX4_used_16 rfl (lv_at hl 1 rfl) ?_
    refine r_iald (q0 := 9) (j := (ix b)) (n := 24) (f := (A 8)) hx hb hI rfl hk_b (by omega) (by decide) dX4_used_17 ?_
    refine ro_i (va_runS (As := [.int (A 8 (ix b))]) (rest := []) ⟨hx, hb, hml, hown, hts⟩ (c_X4_bits l (A 8 (ix b))) (va_cwS 1 hts gX4_used_X4_bits rfl rfl rfl (by decide +kernel) ⟨Nat.le_of_ble_eq_true rfl, Nat.le_of_ble_eq_true rfl⟩) preT rfl rfl hl.1 rfl (lv_room (Nat.le_of_ble_eq_true rfl)) dX4_used_18 ⟨Nat.le_of_ble_eq_true rfl, Nat.le_of_ble_eq_true rfl⟩) hI hS (fun H locs hI hS => ?_)
    rw [show wM cy q A (uS S 5 (bI (noR b nb))) = wM cy q A (uS S 5 (mcR b nb)) from (wM_A (by first | rfl | (simp only [mcR, bI, c5_1,  ↓reduceIte, Bool.false_eq_true, reduceCtorEq, i10, i20, i30, i40]; done) | simp [mcR, bI, c5_1, ]) (by first | rfl | (simp only [mcR, bI, c5_1,  ↓reduceIte, Bool.false_eq_true, reduceCtorEq, i10, i20, i30, i40]; done) | simp [mcR, bI, c5_1, ]))] at hI
    exact end_rwi hx hb hr (by first | (simp only [mcR, bI, c5_1,  ↓reduceIte, Bool.false_eq_true, reduceCtorEq, i10, i20, i30, i40]; done) | simp [mcR, bI, c5_1, ]) hI hS dX4_used_21 hlk
  · refine lv_iconst (v := 0) hx hb dX4_used_8 (by decide) ?_
    refine lv_goto (tgt := 21) hx hb dX4_used_9 (by decide) ?_
    rw [show wM cy q A (uS S 5 (bI (noR b nb))) = wM cy q A (uS S 5 (mcR b nb)) from (wM_A (by first | rfl | (simp only [mcR, bI, c5_1,  ↓reduceIte, Bool.false_eq_true, reduceCtorEq, i10, i20, i30, i40]; done) | simp [mcR, bI, c5_1, ]) (by first | rfl | (simp only [mcR, bI, c5_1,  ↓reduceIte, Bool.false_eq_true, reduceCtorEq, i10, i20, i30, i40]; done) | simp [mcR, bI, c5_1, ]))] at hI
    exact end_rwi hx hb hr (by first | (simp only [mcR, bI, c5_1,  ↓reduceIte, Bool.false_eq_true, reduceCtorEq, i10, i20, i30, i40]; done) | simp [mcR, bI, c5_1, ]) hI hS dX4_used_21 hlk

set_option maxHeartbeats 4000000 in
set_option maxRecDepth 100000 in
theorem c_X4_newest (l : Launch) (D : va_G) (cy : Nat → ClassId) (h0 : Nat) (q : Nat → Nat) (A : Nat → Nat → Int32) (S : Nat → Int32) (name : Int32) (nk : Nat) (hnk : nk ≤ 8) (hck : S 0 = nI nk) (nb : Nat) (hnb : nb ≤ 24) (hcb : S 1 = nI nb) (htn : ∀ b, b < nb → ∃ t, t < 5 ∧ A 6 b = nI t) : Met l yX4_newest wsX4_newest (rmO 8 156) (va_Pc [.ref (q 0), .int name] (pI D cy h0 (wM cy q A S))) (rwI (if mcNewest A S name nk nb = 0 then mnX A S name nk nb else 0) D cy h0 (wM cy q A (uS S 5 (mcNewest A S name nk nb))) (qA 18 q)) 0 0 (qA 18 q) := by
  refine Met.ofW (cc := cX4_newest) (maxL := 3) (ret := (some .int)) (by decide) rfl ?_
  intro p e s m args below meth c s₁ B hml hv
  obtain ⟨rfl, hI⟩ := hv
  have hx := B.exec
  have hb := B.bytes
  have hr := B.returns
  have hts := atoms_spec (ws := wsX4_newest) B.pre
  have hown : s.vm.findClass RX4 = some m.cls := findClass_of_methodNamed B.named
  have hlk := B.notSynchronized
  have hI : IH D cy h0 (wM cy q A S) s s.heap := hI
  have hG := hI.1
  have hqA := hA_M hI
  have hh0 : h0 ≤ s.heap.size := hI.1.2.2.2
  have hS : va_S nof s.heap s.heap [] := va_S.rf
  have hi4 : ∀ w ∈ wsX40, w ∈ wsX4_newest := by decide +kernel
  have hl := lv_entry ([.ref (q 0), .int name]) (n := 3) (Nat.le_of_ble_eq_true rfl)
  rw [lg_entry_eq]
  generalize (lg_sl ([.ref (q 0), .int name]) ++ List.replicate (3 - (lg_sl ([.ref (q 0), .int name])).length) Slot.unset).toArray = ls at hl ⊢
  have hl : lv_has ls 3 [(0, .ref (q 0)), (1, .int name)] := hl
  refine lv_aload_n hx hb dX4_newest_0 rfl (lv_at hl 0 rfl) ?_
  refine lv_iload_n hx hb dX4_newest_1 rfl (lv_at hl 1 rfl) ?_
  refine ro_i (va_runS (As := [.int name]) (rest := [.ref (q 0)]) ⟨hx, hb, hml, hown, hts⟩ (c_X4_isNoName l name) (va_cwS 1 hts gX4_newest_X4_isNoName rfl rfl rfl (by decide +kernel) ⟨Nat.le_of_ble_eq_true rfl, Nat.le_of_ble_eq_true rfl⟩) preT rfl rfl hl.1 rfl (lv_room (Nat.le_of_ble_eq_true rfl)) dX4_newest_2 ⟨Nat.le_of_ble_eq_true rfl, Nat.le_of_ble_eq_true rfl⟩) hI hS (fun H locs hI hS => ?_)
  refine r_ifeq_b (tgt := 12) hx hb dX4_newest_5 (by decide) (fun c5_1 => ?_) (fun c5_1 => ?_)
  · obtain ⟨hj_name, hk_name⟩ := noR_c (by omega) c5_1
    refine lv_iconst (v := 0) hx hb dX4_newest_12 (by decide) ?_
    have hS := hS.mono (B := qA 18 q) (fun _ h => h.elim)
    refine rw_i (w' := wM cy q A (uS S 5 0)) (va_runV (As := [.int 0]) (rest := []) ⟨hx, hb, hml, hown, hts⟩ (c_X4_fails l D cy h0 q A S 0) (cwV 1 hts gX4_newest_X4_fails rfl rfl rfl (by decide +kernel) ⟨Nat.le_of_ble_eq_true rfl, Nat.le_of_ble_eq_true rfl⟩) (hI.preV (k0 := 0) rfl rfl) rfl rfl hl.1 rfl (lv_room (Nat.le_of_ble_eq_true rfl)) dX4_newest_13 ⟨Nat.le_of_ble_eq_true rfl, Nat.le_of_ble_eq_true rfl⟩) hI hS (fun _ h => h) hqA (fun H locs hI hS => ?_)
    rw [show (bI (failsB 0)) = 0 from (by decide)]
    refine lv_if_eq (tgt := 21) hx hb dX4_newest_16 (by decide) (fun c16_2 => ?_) (fun c16_2 => ?_)
    rotate_left
    · exact absurd c16_2 (by decide)
    refine lv_aload_n hx hb dX4_newest_21 rfl (lv_at hl 0 rfl) ?_
    refine lv_iload_n hx hb dX4_newest_22 rfl (lv_at hl 1 rfl) ?_
    refine lv_aload_n hx hb dX4_newest_23 rfl (lv_at hl 0 rfl) ?_
    refine ro_i (va_runV (As := []) (rest := [.int name, .ref (q 0)]) ⟨hx, hb, hml, hown, hts⟩ (c_X4_trusted l D cy h0 q A (uS S 5 0) nk hnk hck nb hnb hcb htn) (cwV 0 hts gX4_newest_X4_trusted rfl rfl rfl (by decide +kernel) ⟨Nat.le_of_ble_eq_true rfl, Nat.le_of_ble_eq_true rfl⟩) (hI.preV (k0 := 0) rfl rfl) rfl rfl hl.1 rfl (lv_room (Nat.le_of_ble_eq_true rfl)) dX4_newest_24 ⟨Nat.le_of_ble_eq_true rfl, Nat.le_of_ble_eq_true rfl⟩) hI hS (fun H locs hI hS => ?_)
    rw [twF_5]
    refine lv_aload_n hx hb dX4_newest_27 rfl (lv_at hl 0 rfl) ?_
    refine ro_i (va_runV (As := []) (rest := [.int (twF A S (-1) nk nb), .int name, .ref (q 0)]) ⟨hx, hb, hml, hown, hts⟩ (c_X4_recalled l D cy h0 q A (uS S 5 0) nb hnb hcb) (cwV 0 hts gX4_newest_X4_recalled rfl rfl rfl (by decide +kernel) ⟨Nat.le_of_ble_eq_true rfl, Nat.le_of_ble_eq_true rfl⟩) (hI.preV (k0 := 0) rfl rfl) rfl rfl hl.1 rfl (lv_room (Nat.le_of_ble_eq_true rfl)) dX4_newest_28 ⟨Nat.le_of_ble_eq_true rfl, Nat.le_of_ble_eq_true rfl⟩) hI hS (fun H locs hI hS => ?_)
    refine lv_iconst (v := (-1)) hx hb dX4_newest_31 (by decide) ?_
    refine lv_ixor hx hb dX4_newest_32 ?_
    refine lv_iand hx hb dX4_newest_33 ?_
    refine ro_i (va_runV (As := [.int name, .int ((twF A S (-1) nk nb) &&& ((rmF A nb) ^^^ (-1)))]) (rest := []) ⟨hx, hb, hml, hown, hts⟩ (c_X4_greatest l D cy h0 q A (uS S 5 0) name ((twF A S (-1) nk nb) &&& ((rmF A nb) ^^^ (-1))) nb hnb hcb) (cwV 2 hts gX4_newest_X4_greatest rfl rfl rfl (by decide +kernel) ⟨Nat.le_of_ble_eq_true rfl, Nat.le_of_ble_eq_true rfl⟩) (hI.preV (k0 := 0) rfl rfl) rfl rfl hl.1 rfl (lv_room (Nat.le_of_ble_eq_true rfl)) dX4_newest_34 ⟨Nat.le_of_ble_eq_true rfl, Nat.le_of_ble_eq_true rfl⟩) hI hS (fun H locs hI hS => ?_)
    refine lv_istore_n (lv' := [(2, .int (grF (A 6) name ((twF A S (-1) nk nb) &&& ((rmF A nb) ^^^ (-1))) nb)), (0, .ref (q 0)), (1, .int name)]) hx hb dX4_newest_37 rfl hl (by decide) rfl (fun ls hl => ?_)
    refine lv_aload_n hx hb dX4_newest_38 rfl (lv_at hl 1 rfl) ?_
    refine lv_iload_n hx hb dX4_newest_39 rfl (lv_at hl 0 rfl) ?_
    refine lv_if_ge (tgt := 47) hx hb dX4_newest_40 (by decide) (fun c40_3 => ?_) (fun c40_3 => ?_)
    · refine lv_iconst (v := 0) hx hb dX4_newest_47 (by decide) ?_
      refine rw_i (w' := wM cy q A (uS (uS S 5 0) 5 0)) (va_runV (As := [.int 0]) (rest := []) ⟨hx, hb, hml, hown, hts⟩ (c_X4_fails l D cy h0 q A (uS S 5 0) 0) (cwV 1 hts gX4_newest_X4_fails rfl rfl rfl (by decide +kernel) ⟨Nat.le_of_ble_eq_true rfl, Nat.le_of_ble_eq_true rfl⟩) (hI.preV (k0 := 0) rfl rfl) rfl rfl hl.1 rfl (lv_room (Nat.le_of_ble_eq_true rfl)) dX4_newest_48 ⟨Nat.le_of_ble_eq_true rfl, Nat.le_of_ble_eq_true rfl⟩) hI hS (fun _ h => h) hqA (fun H locs hI hS => ?_)
      rw [uS_uS] at hI
      rw [show (bI (failsB 0)) = 0 from (by decide)]
      refine lv_if_eq (tgt := 58) hx hb dX4_newest_51 (by decide) (fun c51_4 => ?_) (fun c51_4 => ?_)
      rotate_left
      · exact absurd c51_4 (by decide)
      refine lv_iload_n hx hb dX4_newest_58 rfl (lv_at hl 0 rfl) ?_
      rw [show wM cy q A (uS S 5 0) = wM cy q A (uS S 5 (mcNewest A S name nk nb)) from (wM_A (by first | rfl | (simp only [mnX, mcNewest, bI, c5_1, c40_3,  ↓reduceIte, Bool.false_eq_true, reduceCtorEq, i10, i20, i30, i40]; done) | simp [mnX, mcNewest, bI, c5_1, c40_3, ]) (by first | rfl | (simp only [mnX, mcNewest, bI, c5_1, c40_3,  ↓reduceIte, Bool.false_eq_true, reduceCtorEq, i10, i20, i30, i40]; done) | simp [mnX, mcNewest, bI, c5_1, c40_3, ]))] at hI
      exact end_rwi hx hb hr (by first | (simp only [mnX, mcNewest, bI, c5_1, c40_3,  ↓reduceIte, Bool.false_eq_true, reduceCtorEq, i10, i20, i30, i40]; done) | simp [mnX, mcNewest, bI, c5_1, c40_3, ]) hI hS dX4_newest_59 hlk
    · refine lv_iconst (v := 2) hx hb dX4_newest_43 (by decide) ?_
      refine lv_goto (tgt := 48) hx hb dX4_newest_44 (by decide) ?_
      refine rw_i (w' := wM cy q A (uS (uS S 5 0) 5 2)) (va_runV (As := [.int 2]) (rest := []) ⟨hx, hb, hml, hown, hts⟩ (c_X4_fails l D cy h0 q A (uS S 5 0) 2) (cwV 1 hts gX4_newest_X4_fails rfl rfl rfl (by decide +kernel) ⟨Nat.le_of_ble_eq_true rfl, Nat.le_of_ble_eq_true rfl⟩) (hI.preV (k0 := 0) rfl rfl) rfl rfl hl.1 rfl (lv_room (Nat.le_of_ble_eq_true rfl)) dX4_newest_48 ⟨Nat.le_of_ble_eq_true rfl, Nat.le_of_ble_eq_true rfl⟩) hI hS (fun _ h => h) hqA (fun H locs hI hS => ?_)
      rw [uS_uS] at hI
      rw [show (bI (failsB 2)) = 1 from (by decide)]
      refine lv_if_eq (tgt := 58) hx hb dX4_newest_51 (by decide) (fun c51_5 => ?_) (fun c51_5 => ?_)
      · exact absurd c51_5 (by decide)
      refine lv_iconst (v := 0) hx hb dX4_newest_54 (by decide) ?_
      refine lv_goto (tgt := 59) hx hb dX4_newest_55 (by decide) ?_
      rw [show wM cy q A (uS S 5 2) = wM cy q A (uS S 5 (mcNewest A S name nk nb)) from (wM_A (by first | rfl | (simp only [mnX, mcNewest, bI, c5_1, c40_3,  ↓reduceIte, Bool.false_eq_true, reduceCtorEq, i10, i20, i30, i40]; done) | simp [mnX, mcNewest, bI, c5_1, c40_3, ]) (by first | rfl | (simp only [mnX, mcNewest, bI, c5_1, c40_3,  ↓reduceIte, Bool.false_eq_true, reduceCtorEq, i10, i20, i30, i40]; done) | simp [mnX, mcNewest, bI, c5_1, c40_3, ]))] at hI
      exact end_rwi hx hb hr (by first | (simp only [mnX, mcNewest, bI, c5_1, c40_3,  ↓reduceIte, Bool.false_eq_true, reduceCtorEq, i10, i20, i30, i40]; done) | simp [mnX, mcNewest, bI, c5_1, c40_3, ]) hI hS dX4_newest_59 hlk
  · refine lv_iconst (v := 1) hx hb dX4_newest_8 (by decide) ?_
    refine lv_goto (tgt := 13) hx hb dX4_newest_9 (by decide) ?_
    have hS := hS.mono (B := qA 18 q) (fun _ h => h.elim)
    refine rw_i (w' := wM cy q A (uS S 5 1)) (va_runV (As := [.int 1]) (rest := []) ⟨hx, hb, hml, hown, hts⟩ (c_X4_fails l D cy h0 q A S 1) (cwV 1 hts gX4_newest_X4_fails rfl rfl rfl (by decide +kernel) ⟨Nat.le_of_ble_eq_true rfl, Nat.le_of_ble_eq_true rfl⟩) (hI.preV (k0 := 0) rfl rfl) rfl rfl hl.1 rfl (lv_room (Nat.le_of_ble_eq_true rfl)) dX4_newest_13 ⟨Nat.le_of_ble_eq_true rfl, Nat.le_of_ble_eq_true rfl⟩) hI hS (fun _ h => h) hqA (fun H locs hI hS => ?_)
    rw [show (bI (failsB 1)) = 1 from (by decide)]
    refine lv_if_eq (tgt := 21) hx hb dX4_newest_16 (by decide) (fun c16_6 => ?_) (fun c16_6 => ?_)
    · exact absurd c16_6 (by decide)
    refine lv_iconst (v := 0) hx hb dX4_newest_19 (by decide) ?_
    rw [show wM cy q A (uS S 5 1) = wM cy q A (uS S 5 (mcNewest A S name nk nb)) from (wM_A (by first | rfl | (simp only [mnX, mcNewest, bI, c5_1,  ↓reduceIte, Bool.false_eq_true, reduceCtorEq, i10, i20, i30, i40]; done) | simp [mnX, mcNewest, bI, c5_1, ]) (by first | rfl | (simp only [mnX, mcNewest, bI, c5_1,  ↓reduceIte, Bool.false_eq_true, reduceCtorEq, i10, i20, i30, i40]; done) | simp [mnX, mcNewest, bI, c5_1, ]))] at hI
    exact end_rwi hx hb hr (by first | (simp only [mnX, mcNewest, bI, c5_1,  ↓reduceIte, Bool.false_eq_true, reduceCtorEq, i10, i20, i30, i40]; done) | simp [mnX, mcNewest, bI, c5_1, ]) hI hS dX4_newest_20 hlk

set_option maxHeartbeats 4000000 in
set_option maxRecDepth 100000 in
theorem c_X4_attest (l : Launch) (D : va_G) (cy : Nat → ClassId) (h0 : Nat) (q : Nat → Nat) (A : Nat → Nat → Int32) (S : Nat → Int32) (b : Int32) (key : Int32) (nk : Nat) (hnk : nk ≤ 8) (hck : S 0 = nI nk) (nb : Nat) (hnb : nb ≤ 24) (hcb : S 1 = nI nb) : Met l yX4_attest wsX4_attest (rmO 3 43) (va_Pc [.ref (q 0), .int b, .int key] (pI D cy h0 (wM cy q A S))) (rwI (if mcAttest A S b key nk nb = 0 then btF (A 10 (ix b) ||| ((1 : Int32) <<< (key &&& 31))) 24 else 0) D cy h0 (wM cy q (if mcAttest A S b key nk nb = 0 then uA A 10 (upd (A 10) (ix b) (A 10 (ix b) ||| ((1 : Int32) <<< (key &&& 31)))) else A) (uS S 5 (mcAttest A S b key nk nb))) (qA 18 q)) 0 0 (qA 18 q) := by
  refine Met.ofW (cc := cX4_attest) (maxL := 3) (ret := (some .int)) (by decide) rfl ?_
  intro p e s m args below meth c s₁ B hml hv
  obtain ⟨rfl, hI⟩ := hv
  have hx := B.exec
  have hb := B.bytes
  have hr := B.returns
  have hts := atoms_spec (ws := wsX4_attest) B.pre
  have hown : s.vm.findClass RX4 = some m.cls := findClass_of_methodNamed B.named
  have hlk := B.notSynchronized
  have hI : IH D cy h0 (wM cy q A S) s s.heap := hI
  have hG := hI.1
  have hqA := hA_M hI
  have hh0 : h0 ≤ s.heap.size := hI.1.2.2.2
  have hS : va_S nof s.heap s.heap [] := va_S.rf
  have hi4 : ∀ w ∈ wsX40, w ∈ wsX4_attest := by decide +kernel
  have hl := lv_entry ([.ref (q 0), .int b, .int key]) (n := 3) (Nat.le_of_ble_eq_true rfl)
  rw [lg_entry_eq]
  generalize (lg_sl ([.ref (q 0), .int b, .int key]) ++ List.replicate (3 - (lg_sl ([.ref (q 0), .int b, .int key])).length) Slot.unset).toArray = ls at hl ⊢
  have hl : lv_has ls 3 [(0, .ref (q 0)), (1, .int b), (2, .int key)] := hl
  refine lv_aload_n hx hb dX4_attest_0 rfl (lv_at hl 0 rfl) ?_
  refine lv_iload_n hx hb dX4_attest_1 rfl (lv_at hl 1 rfl) ?_
  refine lv_iconst (v := 0) hx hb dX4_attest_2 (by decide) ?_
  refine lv_aload_n hx hb dX4_attest_3 rfl (lv_at hl 0 rfl) ?_
  refine r_get (C := RX4) (T := TX4) (N := 23) (k := 7) (q0 := 0) (v := .int (S 1)) hx hb hts hi4 hown hI rfl rfl (by decide) (hts (.fieldLink RX4 80 "BuildlotsModel" "builds" "I") (List.mem_of_getElem? (i := 1) rfl)) rfl rfl dX4_attest_4 ?_
  refine lv_iconst (v := 1) hx hb dX4_attest_7 (by decide) ?_
  refine lv_isub hx hb dX4_attest_8 ?_
  refine ro_i (va_runS (As := [.int b, .int 0, .int ((S 1) - 1)]) (rest := [.ref (q 0)]) ⟨hx, hb, hml, hown, hts⟩ (c_X4_in l b 0 ((S 1) - 1)) (va_cwS 3 hts gX4_attest_X4_in rfl rfl rfl (by decide +kernel) ⟨Nat.le_of_ble_eq_true rfl, Nat.le_of_ble_eq_true rfl⟩) preT rfl rfl hl.1 rfl (lv_room (Nat.le_of_ble_eq_true rfl)) dX4_attest_9 ⟨Nat.le_of_ble_eq_true rfl, Nat.le_of_ble_eq_true rfl⟩) hI hS (fun H locs hI hS => ?_)
  rw [show (bI (inB b 0 ((S 1) - 1))) = bI (inR b nb) from (congrArg bI (inB_R hcb (by omega)))]
  refine r_ifeq_b (tgt := 29) hx hb dX4_attest_12 (by decide) (fun c12_1 => ?_) (fun c12_1 => ?_)
  · refine lv_iconst (v := 1) hx hb dX4_attest_29 (by decide) ?_
    refine lv_goto (tgt := 34) hx hb dX4_attest_30 (by decide) ?_
    have hS := hS.mono (B := qA 18 q) (fun _ h => h.elim)
    refine rw_i (w' := wM cy q A (uS S 5 1)) (va_runV (As := [.int 1]) (rest := []) ⟨hx, hb, hml, hown, hts⟩ (c_X4_fails l D cy h0 q A S 1) (cwV 1 hts gX4_attest_X4_fails rfl rfl rfl (by decide +kernel) ⟨Nat.le_of_ble_eq_true rfl, Nat.le_of_ble_eq_true rfl⟩) (hI.preV (k0 := 0) rfl rfl) rfl rfl hl.1 rfl (lv_room (Nat.le_of_ble_eq_true rfl)) dX4_attest_34 ⟨Nat.le_of_ble_eq_true rfl, Nat.le_of_ble_eq_true rfl⟩) hI hS (fun _ h => h) hqA (fun H locs hI hS => ?_)
    rw [show (bI (failsB 1)) = 1 from (by decide)]
    refine lv_if_eq (tgt := 42) hx hb dX4_attest_37 (by decide) (fun c37_2 => ?_) (fun c37_2 => ?_)
    · exact absurd c37_2 (by decide)
    refine lv_iconst (v := 0) hx hb dX4_attest_40 (by decide) ?_
    rw [show wM cy q A (uS S 5 1) = wM cy q (if mcAttest A S b key nk nb = 0 then uA A 10 (upd (A 10) (ix b) (A 10 (ix b) ||| ((1 : Int32) <<< (key &&& 31)))) else A) (uS S 5 (mcAttest A S b key nk nb)) from (wM_A (by first | rfl | (simp only [upd, mcAttest, bI, c12_1,  ↓reduceIte, Bool.false_eq_true, reduceCtorEq, i10, i20, i30, i40]; done) | simp [upd, mcAttest, bI, c12_1, ]) (by first | rfl | (simp only [upd, mcAttest, bI, c12_1,  ↓reduceIte, Bool.false_eq_true, reduceCtorEq, i10, i20, i30, i40]; done) | simp [upd, mcAttest, bI, c12_1, ]))] at hI
    exact end_rwi hx hb hr (by first | (simp only [upd, mcAttest, bI, c12_1,  ↓reduceIte, Bool.false_eq_true, reduceCtorEq, i10, i20, i30, i40]; done) | simp [upd, mcAttest, bI, c12_1, ]) hI hS dX4_attest_41 hlk
  · obtain ⟨hj_b, hk_b⟩ := inR_c (by omega) c12_1
    refine lv_iload_n hx hb dX4_attest_15 rfl (lv_at hl 2 rfl) ?_
    refine lv_iconst (v := 0) hx hb dX4_attest_16 (by decide) ?_
    refine lv_aload_n hx hb dX4_attest_17 rfl (lv_at hl 0 rfl) ?_
    refine r_get (C := RX4) (T := TX4) (N := 23) (k := 2) (q0 := 0) (v := .int (S 0)) hx hb hts hi4 hown hI rfl rfl (by decide) (hts (.fieldLink RX4 69 "BuildlotsModel" "keys" "I") (List.mem_of_getElem? (i := 2) rfl)) rfl rfl dX4_attest_18 ?_
    refine lv_iconst (v := 1) hx hb dX4_attest_21 (by decide) ?_
    refine lv_isub hx hb dX4_attest_22 ?_
    refine ro_i (va_runS (As := [.int key, .int 0, .int ((S 0) - 1)]) (rest := [.ref (q 0)]) ⟨hx, hb, hml, hown, hts⟩ (c_X4_in l key 0 ((S 0) - 1)) (va_cwS 3 hts gX4_attest_X4_in rfl rfl rfl (by decide +kernel) ⟨Nat.le_of_ble_eq_true rfl, Nat.le_of_ble_eq_true rfl⟩) preT rfl rfl hl.1 rfl (lv_room (Nat.le_of_ble_eq_true rfl)) dX4_attest_23 ⟨Nat.le_of_ble_eq_true rfl, Nat.le_of_ble_eq_true rfl⟩) hI hS (fun H locs hI hS => ?_)
    rw [show (bI (inB key 0 ((S 0) - 1))) = bI (inR key nk) from (congrArg bI (inB_R hck (by omega)))]
    refine r_ifne_b (tgt := 33) hx hb dX4_attest_26 (by decide) (fun c26_3 => ?_) (fun c26_3 => ?_)
    · obtain ⟨hj_key, hk_key⟩ := inR_c (by omega) c26_3
      refine lv_iconst (v := 0) hx hb dX4_attest_33 (by decide) ?_
      have hS := hS.mono (B := qA 18 q) (fun _ h => h.elim)
      refine rw_i (w' := wM cy q A (uS S 5 0)) (va_runV (As := [.int 0]) (rest := []) ⟨hx, hb, hml, hown, hts⟩ (c_X4_fails l D cy h0 q A S 0) (cwV 1 hts gX4_attest_X4_fails rfl rfl rfl (by decide +kernel) ⟨Nat.le_of_ble_eq_true rfl, Nat.le_of_ble_eq_true rfl⟩) (hI.preV (k0 := 0) rfl rfl) rfl rfl hl.1 rfl (lv_room (Nat.le_of_ble_eq_true rfl)) dX4_attest_34 ⟨Nat.le_of_ble_eq_true rfl, Nat.le_of_ble_eq_true rfl⟩) hI hS (fun _ h => h) hqA (fun H locs hI hS => ?_)
      rw [show (bI (failsB 0)) = 0 from (by decide)]
      refine lv_if_eq (tgt := 42) hx hb dX4_attest_37 (by decide) (fun c37_4 => ?_) (fun c37_4 => ?_)
      rotate_left
      · exact absurd c37_4 (by decide)
      refine lv_aload_n hx hb dX4_attest_42 rfl (lv_at hl 0 rfl) ?_
      refine lv_aload_n hx hb dX4_attest_43 rfl (lv_at hl 0 rfl) ?_
      refine lv_iload_n hx hb dX4_attest_44 rfl (lv_at hl 2 rfl) ?_
      refine ro_i (va_runV (As := [.int key]) (rest := [.ref (q 0)]) ⟨hx, hb, hml, hown, hts⟩ (c_X4_lives l D cy h0 q A (uS S 5 0) key (ix key) (by omega) hk_key) (cwV 1 hts gX4_attest_X4_lives rfl rfl rfl (by decide +kernel) ⟨Nat.le_of_ble_eq_true rfl, Nat.le_of_ble_eq_true rfl⟩) (hI.preV (k0 := 0) rfl rfl) rfl rfl hl.1 rfl (lv_room (Nat.le_of_ble_eq_true rfl)) dX4_attest_45 ⟨Nat.le_of_ble_eq_true rfl, Nat.le_of_ble_eq_true rfl⟩) hI hS (fun H locs hI hS => ?_)
      rw [liveM_5]
      refine r_ifeq_b (tgt := 65) hx hb dX4_attest_48 (by decide) (fun c48_5 => ?_) (fun c48_5 => ?_)
      · refine lv_iconst (v := 2) hx hb dX4_attest_65 (by decide) ?_
        refine lv_goto (tgt := 82) hx hb dX4_attest_66 (by decide) ?_
        refine rw_i (w' := wM cy q A (uS (uS S 5 0) 5 2)) (va_runV (As := [.int 2]) (rest := []) ⟨hx, hb, hml, hown, hts⟩ (c_X4_fails l D cy h0 q A (uS S 5 0) 2) (cwV 1 hts gX4_attest_X4_fails rfl rfl rfl (by decide +kernel) ⟨Nat.le_of_ble_eq_true rfl, Nat.le_of_ble_eq_true rfl⟩) (hI.preV (k0 := 0) rfl rfl) rfl rfl hl.1 rfl (lv_room (Nat.le_of_ble_eq_true rfl)) dX4_attest_82 ⟨Nat.le_of_ble_eq_true rfl, Nat.le_of_ble_eq_true rfl⟩) hI hS (fun _ h => h) hqA (fun H locs hI hS => ?_)
        rw [uS_uS] at hI
        rw [show (bI (failsB 2)) = 1 from (by decide)]
        refine lv_if_eq (tgt := 90) hx hb dX4_attest_85 (by decide) (fun c85_6 => ?_) (fun c85_6 => ?_)
        · exact absurd c85_6 (by decide)
        refine lv_iconst (v := 0) hx hb dX4_attest_88 (by decide) ?_
        rw [show wM cy q A (uS S 5 2) = wM cy q (if mcAttest A S b key nk nb = 0 then uA A 10 (upd (A 10) (ix b) (A 10 (ix b) ||| ((1 : Int32) <<< (key &&& 31)))) else A) (uS S 5 (mcAttest A S b key nk nb)) from (wM_A (by first | rfl | (simp only [upd, mcAttest, bI, c12_1, c26_3, c48_5,  ↓reduceIte, Bool.false_eq_true, reduceCtorEq, i10, i20, i30, i40]; done) | simp [upd, mcAttest, bI, c12_1, c26_3, c48_5, ]) (by first | rfl | (simp only [upd, mcAttest, bI, c12_1, c26_3, c48_5,  ↓reduceIte, Bool.false_eq_true, reduceCtorEq, i10, i20, i30, i40]; done) | simp [upd, mcAttest, bI, c12_1, c26_3, c48_5, ]))] at hI
        exact end_rwi hx hb hr (by first | (simp only [upd, mcAttest, bI, c12_1, c26_3, c48_5,  ↓reduceIte, Bool.false_eq_true, reduceCtorEq, i10, i20, i30, i40]; done) | simp [upd, mcAttest, bI, c12_1, c26_3, c48_5, ]) hI hS dX4_attest_89 hlk
      · refine lv_aload_n hx hb dX4_attest_51 rfl (lv_at hl 0 rfl) ?_
        refine r_get (C := RX4) (T := TX4) (N := 23) (k := 12) (q0 := 0) (v := .ref (q 11)) hx hb hts hi4 hown hI rfl rfl (by decide) (hts (.fieldLink RX4 41 "BuildlotsModel" "attested" "[I") (List.mem_of_getElem? (i := 3) rfl)) rfl rfl dX4_attest_52 ?_
        refine lv_iload_n hx hb dX4_attest_55 rfl (lv_at hl 1 rfl) ?_
        refine r_iald (q0 := 11) (j := (ix b)) (n := 24) (f := (A 10)) hx hb hI rfl hk_b (by omega) (by decide) dX4_attest_56 ?_
        refine lv_iload_n hx hb dX4_attest_57 rfl (lv_at hl 2 rfl) ?_
        refine lv_ishr hx hb dX4_attest_58 ?_
        refine lv_iconst (v := 1) hx hb dX4_attest_59 (by decide) ?_
        refine lv_iand hx hb dX4_attest_60 ?_
        refine lv_iconst (v := 1) hx hb dX4_attest_61 (by decide) ?_
        refine lv_icmp_ne (tgt := 69) hx hb dX4_attest_62 (by decide) (fun c62_7 => ?_) (fun c62_7 => ?_)
        · refine lv_aload_n hx hb dX4_attest_69 rfl (lv_at hl 0 rfl) ?_
          refine lv_iload_n hx hb dX4_attest_70 rfl (lv_at hl 1 rfl) ?_
          refine ro_i (va_runV (As := [.int b]) (rest := [.ref (q 0)]) ⟨hx, hb, hml, hown, hts⟩ (c_X4_isGone l D cy h0 q A (uS S 5 0) b (ix b) (by omega) hk_b) (cwV 1 hts gX4_attest_X4_isGone rfl rfl rfl (by decide +kernel) ⟨Nat.le_of_ble_eq_true rfl, Nat.le_of_ble_eq_true rfl⟩) (hI.preV (k0 := 0) rfl rfl) rfl rfl hl.1 rfl (lv_room (Nat.le_of_ble_eq_true rfl)) dX4_attest_71 ⟨Nat.le_of_ble_eq_true rfl, Nat.le_of_ble_eq_true rfl⟩) hI hS (fun H locs hI hS => ?_)
          refine r_ifeq_b (tgt := 81) hx hb dX4_attest_74 (by decide) (fun c74_8 => ?_) (fun c74_8 => ?_)
          · refine lv_iconst (v := 0) hx hb dX4_attest_81 (by decide) ?_
            refine rw_i (w' := wM cy q A (uS (uS S 5 0) 5 0)) (va_runV (As := [.int 0]) (rest := []) ⟨hx, hb, hml, hown, hts⟩ (c_X4_fails l D cy h0 q A (uS S 5 0) 0) (cwV 1 hts gX4_attest_X4_fails rfl rfl rfl (by decide +kernel) ⟨Nat.le_of_ble_eq_true rfl, Nat.le_of_ble_eq_true rfl⟩) (hI.preV (k0 := 0) rfl rfl) rfl rfl hl.1 rfl (lv_room (Nat.le_of_ble_eq_true rfl)) dX4_attest_82 ⟨Nat.le_of_ble_eq_true rfl, Nat.le_of_ble_eq_true rfl⟩) hI hS (fun _ h => h) hqA (fun H locs hI hS => ?_)
            rw [uS_uS] at hI
            rw [show (bI (failsB 0)) = 0 from (by decide)]
            refine lv_if_eq (tgt := 90) hx hb dX4_attest_85 (by decide) (fun c85_9 => ?_) (fun c85_9 => ?_)
            rotate_left
            · exact absurd c85_9 (by decide)
            refine lv_aload_n hx hb dX4_attest_90 rfl (lv_at hl 0 rfl) ?_
            refine r_get (C := RX4) (T := TX4) (N := 23) (k := 12) (q0 := 0) (v := .ref (q 11)) hx hb hts hi4 hown hI rfl rfl (by decide) (hts (.fieldLink RX4 41 "BuildlotsModel" "attested" "[I") (List.mem_of_getElem? (i := 3) rfl)) rfl rfl dX4_attest_91 ?_
            refine lv_iload_n hx hb dX4_attest_94 rfl (lv_at hl 1 rfl) ?_
            refine lv_dup2_11 hx hb dX4_attest_95 rfl rfl ?_
            refine r_iald (q0 := 11) (j := (ix b)) (n := 24) (f := (A 10)) hx hb hI rfl hk_b (by omega) (by decide) dX4_attest_96 ?_
            refine lv_iconst (v := 1) hx hb dX4_attest_97 (by decide) ?_
            refine lv_iload_n hx hb dX4_attest_98 rfl (lv_at hl 2 rfl) ?_
            refine lv_ishl hx hb dX4_attest_99 ?_
            refine lv_ior hx hb dX4_attest_100 ?_
            refine r_iast (w' := wM cy q (uA A 10 (upd (A 10) (ix b) ((A 10 (ix b)) ||| ((1 : Int32) <<< (key &&& 31))))) (uS S 5 0)) (q0 := 11) (j := (ix b)) (n := 24) (f := (A 10)) hx hb hI hS hqA hh0 (qA_M hI) rfl hk_b (by omega) (by decide) dX4_attest_101 rfl (fun H locs hI hS => ?_)
            refine lv_aload_n hx hb dX4_attest_102 rfl (lv_at hl 0 rfl) ?_
            refine r_get (C := RX4) (T := TX4) (N := 23) (k := 12) (q0 := 0) (v := .ref (q 11)) hx hb hts hi4 hown hI rfl rfl (by decide) (hts (.fieldLink RX4 41 "BuildlotsModel" "attested" "[I") (List.mem_of_getElem? (i := 3) rfl)) rfl rfl dX4_attest_103 ?_
            refine lv_iload_n hx hb dX4_attest_106 rfl (lv_at hl 1 rfl) ?_
            refine r_iald (q0 := 11) (j := (ix b)) (n := 24) (f := (upd (A 10) (ix b) ((A 10 (ix b)) ||| ((1 : Int32) <<< (key &&& 31))))) hx hb hI rfl hk_b (by omega) (by decide) dX4_attest_107 ?_
            refine ro_i (va_runS (As := [.int ((upd (A 10) (ix b) ((A 10 (ix b)) ||| ((1 : Int32) <<< (key &&& 31)))) (ix b))]) (rest := []) ⟨hx, hb, hml, hown, hts⟩ (c_X4_bits l ((upd (A 10) (ix b) ((A 10 (ix b)) ||| ((1 : Int32) <<< (key &&& 31)))) (ix b))) (va_cwS 1 hts gX4_attest_X4_bits rfl rfl rfl (by decide +kernel) ⟨Nat.le_of_ble_eq_true rfl, Nat.le_of_ble_eq_true rfl⟩) preT rfl rfl hl.1 rfl (lv_room (Nat.le_of_ble_eq_true rfl)) dX4_attest_108 ⟨Nat.le_of_ble_eq_true rfl, Nat.le_of_ble_eq_true rfl⟩) hI hS (fun H locs hI hS => ?_)
            rw [show wM cy q (uA A 10 (upd (A 10) (ix b) ((A 10 (ix b)) ||| ((1 : Int32) <<< (key &&& 31))))) (uS S 5 0) = wM cy q (if mcAttest A S b key nk nb = 0 then uA A 10 (upd (A 10) (ix b) (A 10 (ix b) ||| ((1 : Int32) <<< (key &&& 31)))) else A) (uS S 5 (mcAttest A S b key nk nb)) from (wM_A (by first | rfl | (simp only [upd, mcAttest, bI, c12_1, c26_3, c48_5, c62_7, c74_8,  ↓reduceIte, Bool.false_eq_true, reduceCtorEq, i10, i20, i30, i40]; done) | simp [upd, mcAttest, bI, c12_1, c26_3, c48_5, c62_7, c74_8, ]) (by first | rfl | (simp only [upd, mcAttest, bI, c12_1, c26_3, c48_5, c62_7, c74_8,  ↓reduceIte, Bool.false_eq_true, reduceCtorEq, i10, i20, i30, i40]; done) | simp [upd, mcAttest, bI, c12_1, c26_3, c48_5, c62_7, c74_8, ]))] at hI
            exact end_rwi hx hb hr (by first | (simp only [upd, mcAttest, bI, c12_1, c26_3, c48_5, c62_7, c74_8,  ↓reduceIte, Bool.false_eq_true, reduceCtorEq, i10, i20, i30, i40]; done) | simp [upd, mcAttest, bI, c12_1, c26_3, c48_5, c62_7, c74_8, ]) hI hS dX4_attest_111 hlk
          · refine lv_iconst (v := 3) hx hb dX4_attest_77 (by decide) ?_
            refine lv_goto (tgt := 82) hx hb dX4_attest_78 (by decide) ?_
            refine rw_i (w' := wM cy q A (uS (uS S 5 0) 5 3)) (va_runV (As := [.int 3]) (rest := []) ⟨hx, hb, hml, hown, hts⟩ (c_X4_fails l D cy h0 q A (uS S 5 0) 3) (cwV 1 hts gX4_attest_X4_fails rfl rfl rfl (by decide +kernel) ⟨Nat.le_of_ble_eq_true rfl, Nat.le_of_ble_eq_true rfl⟩) (hI.preV (k0 := 0) rfl rfl) rfl rfl hl.1 rfl (lv_room (Nat.le_of_ble_eq_true rfl)) dX4_attest_82 ⟨Nat.le_of_ble_eq_true rfl, Nat.le_of_ble_eq_true rfl⟩) hI hS (fun _ h => h) hqA (fun H locs hI hS => ?_)
            rw [uS_uS] at hI
            rw [show (bI (failsB 3)) = 1 from (by decide)]
            refine lv_if_eq (tgt := 90) hx hb dX4_attest_85 (by decide) (fun c85_10 => ?_) (fun c85_10 => ?_)
            · exact absurd c85_10 (by decide)
            refine lv_iconst (v := 0) hx hb dX4_attest_88 (by decide) ?_
            rw [show wM cy q A (uS S 5 3) = wM cy q (if mcAttest A S b key nk nb = 0 then uA A 10 (upd (A 10) (ix b) (A 10 (ix b) ||| ((1 : Int32) <<< (key &&& 31)))) else A) (uS S 5 (mcAttest A S b key nk nb)) from (wM_A (by first | rfl | (simp only [upd, mcAttest, bI, c12_1, c26_3, c48_5, c62_7, c74_8,  ↓reduceIte, Bool.false_eq_true, reduceCtorEq, i10, i20, i30, i40]; done) | simp [upd, mcAttest, bI, c12_1, c26_3, c48_5, c62_7, c74_8, ]) (by first | rfl | (simp only [upd, mcAttest, bI, c12_1, c26_3, c48_5, c62_7, c74_8,  ↓reduceIte, Bool.false_eq_true, reduceCtorEq, i10, i20, i30, i40]; done) | simp [upd, mcAttest, bI, c12_1, c26_3, c48_5, c62_7, c74_8, ]))] at hI
            exact end_rwi hx hb hr (by first | (simp only [upd, mcAttest, bI, c12_1, c26_3, c48_5, c62_7, c74_8,  ↓reduceIte, Bool.false_eq_true, reduceCtorEq, i10, i20, i30, i40]; done) | simp [upd, mcAttest, bI, c12_1, c26_3, c48_5, c62_7, c74_8, ]) hI hS dX4_attest_89 hlk
        · refine lv_iconst (v := 2) hx hb dX4_attest_65 (by decide) ?_
          refine lv_goto (tgt := 82) hx hb dX4_attest_66 (by decide) ?_
          refine rw_i (w' := wM cy q A (uS (uS S 5 0) 5 2)) (va_runV (As := [.int 2]) (rest := []) ⟨hx, hb, hml, hown, hts⟩ (c_X4_fails l D cy h0 q A (uS S 5 0) 2) (cwV 1 hts gX4_attest_X4_fails rfl rfl rfl (by decide +kernel) ⟨Nat.le_of_ble_eq_true rfl, Nat.le_of_ble_eq_true rfl⟩) (hI.preV (k0 := 0) rfl rfl) rfl rfl hl.1 rfl (lv_room (Nat.le_of_ble_eq_true rfl)) dX4_attest_82 ⟨Nat.le_of_ble_eq_true rfl, Nat.le_of_ble_eq_true rfl⟩) hI hS (fun _ h => h) hqA (fun H locs hI hS => ?_)
          rw [uS_uS] at hI
          rw [show (bI (failsB 2)) = 1 from (by decide)]
          refine lv_if_eq (tgt := 90) hx hb dX4_attest_85 (by decide) (fun c85_11 => ?_) (fun c85_11 => ?_)
          · exact absurd c85_11 (by decide)
          refine lv_iconst (v := 0) hx hb dX4_attest_88 (by decide) ?_
          rw [show wM cy q A (uS S 5 2) = wM cy q (if mcAttest A S b key nk nb = 0 then uA A 10 (upd (A 10) (ix b) (A 10 (ix b) ||| ((1 : Int32) <<< (key &&& 31)))) else A) (uS S 5 (mcAttest A S b key nk nb)) from (wM_A (by first | rfl | (simp only [upd, mcAttest, bI, c12_1, c26_3, c48_5, c62_7,  ↓reduceIte, Bool.false_eq_true, reduceCtorEq, i10, i20, i30, i40]; done) | simp [upd, mcAttest, bI, c12_1, c26_3, c48_5, c62_7, ]) (by first | rfl | (simp only [upd, mcAttest, bI, c12_1, c26_3, c48_5, c62_7,  ↓reduceIte, Bool.false_eq_true, reduceCtorEq, i10, i20, i30, i40]; done) | simp [upd, mcAttest, bI, c12_1, c26_3, c48_5, c62_7, ]))] at hI
          exact end_rwi hx hb hr (by first | (simp only [upd, mcAttest, bI, c12_1, c26_3, c48_5, c62_7,  ↓reduceIte, Bool.false_eq_true, reduceCtorEq, i10, i20, i30, i40]; done) | simp [upd, mcAttest, bI, c12_1, c26_3, c48_5, c62_7, ]) hI hS dX4_attest_89 hlk
    · refine lv_iconst (v := 1) hx hb dX4_attest_29 (by decide) ?_
      refine lv_goto (tgt := 34) hx hb dX4_attest_30 (by decide) ?_
      have hS := hS.mono (B := qA 18 q) (fun _ h => h.elim)
      refine rw_i (w' := wM cy q A (uS S 5 1)) (va_runV (As := [.int 1]) (rest := []) ⟨hx, hb, hml, hown, hts⟩ (c_X4_fails l D cy h0 q A S 1) (cwV 1 hts gX4_attest_X4_fails rfl rfl rfl (by decide +kernel) ⟨Nat.le_of_ble_eq_true rfl, Nat.le_of_ble_eq_true rfl⟩) (hI.preV (k0 := 0) rfl rfl) rfl rfl hl.1 rfl (lv_room (Nat.le_of_ble_eq_true rfl)) dX4_attest_34 ⟨Nat.le_of_ble_eq_true rfl, Nat.le_of_ble_eq_true rfl⟩) hI hS (fun _ h => h) hqA (fun H locs hI hS => ?_)
      rw [show (bI (failsB 1)) = 1 from (by decide)]
      refine lv_if_eq (tgt := 42) hx hb dX4_attest_37 (by decide) (fun c37_12 => ?_) (fun c37_12 => ?_)
      · exact absurd c37_12 (by decide)
      refine lv_iconst (v := 0) hx hb dX4_attest_40 (by decide) ?_
      rw [show wM cy q A (uS S 5 1) = wM cy q (if mcAttest A S b key nk nb = 0 then uA A 10 (upd (A 10) (ix b) (A 10 (ix b) ||| ((1 : Int32) <<< (key &&& 31)))) else A) (uS S 5 (mcAttest A S b key nk nb)) from (wM_A (by first | rfl | (simp only [upd, mcAttest, bI, c12_1, c26_3,  ↓reduceIte, Bool.false_eq_true, reduceCtorEq, i10, i20, i30, i40]; done) | simp [upd, mcAttest, bI, c12_1, c26_3, ]) (by first | rfl | (simp only [upd, mcAttest, bI, c12_1, c26_3,  ↓reduceIte, Bool.false_eq_true, reduceCtorEq, i10, i20, i30, i40]; done) | simp [upd, mcAttest, bI, c12_1, c26_3, ]))] at hI
      exact end_rwi hx hb hr (by first | (simp only [upd, mcAttest, bI, c12_1, c26_3,  ↓reduceIte, Bool.false_eq_true, reduceCtorEq, i10, i20, i30, i40]; done) | simp [upd, mcAttest, bI, c12_1, c26_3, ]) hI hS dX4_attest_41 hlk

set_option maxHeartbeats 4000000 in
set_option maxRecDepth 100000 in
theorem c_X4_vouches (l : Launch) (D : va_G) (cy : Nat → ClassId) (h0 : Nat) (q : Nat → Nat) (A : Nat → Nat → Int32) (S : Nat → Int32) (b : Int32) (sg : Int32) (nk : Nat) (hnk : nk ≤ 8) (hck : S 0 = nI nk) (nb : Nat) (hnb : nb ≤ 24) (hcb : S 1 = nI nb) : Met l yX4_vouches wsX4_vouches (rmO 5 89) (va_Pc [.ref (q 0), .int b, .int sg] (pI D cy h0 (wM cy q A S))) (rwI (bI (!noR b nb && (inR sg 4 && anyF (bkP A S sg (ix b) (-1)) nk))) D cy h0 (wM cy q A (uS S 5 (mcVouch b sg nb))) (qA 18 q)) 0 0 (qA 18 q) := by
  refine Met.ofW (cc := cX4_vouches) (maxL := 3) (ret := (some .boolean)) (by decide) rfl ?_
  intro p e s m args below meth c s₁ B hml hv
  obtain ⟨rfl, hI⟩ := hv
  have hx := B.exec
  have hb := B.bytes
  have hr := B.returns
  have hts := atoms_spec (ws := wsX4_vouches) B.pre
  have hown : s.vm.findClass RX4 = some m.cls := findClass_of_methodNamed B.named
  have hlk := B.notSynchronized
  have hI : IH D cy h0 (wM cy q A S) s s.heap := hI
  have hG := hI.1
  have hqA := hA_M hI
  have hh0 : h0 ≤ s.heap.size := hI.1.2.2.2
  have hS : va_S nof s.heap s.heap [] := va_S.rf
  have hi4 : ∀ w ∈ wsX40, w ∈ wsX4_vouches := by decide +kernel
  have hl := lv_entry ([.ref (q 0), .int b, .int sg]) (n := 3) (Nat.le_of_ble_eq_true rfl)
  rw [lg_entry_eq]
  generalize (lg_sl ([.ref (q 0), .int b, .int sg]) ++ List.replicate (3 - (lg_sl ([.ref (q 0), .int b, .int sg])).length) Slot.unset).toArray = ls at hl ⊢
  have hl : lv_has ls 3 [(0, .ref (q 0)), (1, .int b), (2, .int sg)] := hl
  refine lv_aload_n hx hb dX4_vouches_0 rfl (lv_at hl 0 rfl) ?_
  refine lv_iload_n hx hb dX4_vouches_1 rfl (lv_at hl 1 rfl) ?_
  refine lv_iload_n hx hb dX4_vouches_2 rfl (lv_at hl 2 rfl) ?_
  have hS := hS.mono (B := qA 18 q) (fun _ h => h.elim)
  refine rw_i (w' := wM cy q A (uS S 5 (if noR b nb = true then 1 else if inR sg 4 = true then 0 else 2))) (va_runV (As := [.int b, .int sg]) (rest := []) ⟨hx, hb, hml, hown, hts⟩ (c_X4_vouched l D cy h0 q A S b sg nk hnk hck nb hnb hcb) (cwV 2 hts gX4_vouches_X4_vouched rfl rfl rfl (by decide +kernel) ⟨Nat.le_of_ble_eq_true rfl, Nat.le_of_ble_eq_true rfl⟩) (hI.preV (k0 := 0) rfl rfl) rfl rfl hl.1 rfl (lv_room (Nat.le_of_ble_eq_true rfl)) dX4_vouches_3 ⟨Nat.le_of_ble_eq_true rfl, Nat.le_of_ble_eq_true rfl⟩) hI hS (fun _ h => h) hqA (fun H locs hI hS => ?_)
  rw [show wM cy q A (uS S 5 (if noR b nb = true then 1 else if inR sg 4 = true then 0 else 2)) = wM cy q A (uS S 5 (mcVouch b sg nb)) from rfl] at hI
  exact end_rwz hx hb hr (nz_bI _) rfl hI hS dX4_vouches_6 hlk

set_option maxHeartbeats 4000000 in
set_option maxRecDepth 100000 in
theorem c_X4_vouchesByList (l : Launch) (D : va_G) (cy : Nat → ClassId) (h0 : Nat) (q : Nat → Nat) (A : Nat → Nat → Int32) (S : Nat → Int32) (b : Int32) (sg : Int32) (nk : Nat) (hnk : nk ≤ 8) (hck : S 0 = nI nk) (nb : Nat) (hnb : nb ≤ 24) (hcb : S 1 = nI nb) : Met l yX4_vouchesByList wsX4_vouchesByList (rmO 5 89) (va_Pc [.ref (q 0), .int b, .int sg] (pI D cy h0 (wM cy q A S))) (rwI (bI (!noR b nb && (inR sg 4 && anyF (bkP A S sg (ix b) (-1)) nk))) D cy h0 (wM cy q A (uS S 5 (mcVouch b sg nb))) (qA 18 q)) 0 0 (qA 18 q) := by
  refine Met.ofW (cc := cX4_vouchesByList) (maxL := 3) (ret := (some .boolean)) (by decide) rfl ?_
  intro p e s m args below meth c s₁ B hml hv
  obtain ⟨rfl, hI⟩ := hv
  have hx := B.exec
  have hb := B.bytes
  have hr := B.returns
  have hts := atoms_spec (ws := wsX4_vouchesByList) B.pre
  have hown : s.vm.findClass RX4 = some m.cls := findClass_of_methodNamed B.named
  have hlk := B.notSynchronized
  have hI : IH D cy h0 (wM cy q A S) s s.heap := hI
  have hG := hI.1
  have hqA := hA_M hI
  have hh0 : h0 ≤ s.heap.size := hI.1.2.2.2
  have hS : va_S nof s.heap s.heap [] := va_S.rf
  have hi4 : ∀ w ∈ wsX40, w ∈ wsX4_vouchesByList := by decide +kernel
  have hl := lv_entry ([.ref (q 0), .int b, .int sg]) (n := 3) (Nat.le_of_ble_eq_true rfl)
  rw [lg_entry_eq]
  generalize (lg_sl ([.ref (q 0), .int b, .int sg]) ++ List.replicate (3 - (lg_sl ([.ref (q 0), .int b, .int sg])).length) Slot.unset).toArray = ls at hl ⊢
  have hl : lv_has ls 3 [(0, .ref (q 0)), (1, .int b), (2, .int sg)] := hl
  refine lv_aload_n hx hb dX4_vouchesByList_0 rfl (lv_at hl 0 rfl) ?_
  refine lv_iload_n hx hb dX4_vouchesByList_1 rfl (lv_at hl 1 rfl) ?_
  refine lv_iload_n hx hb dX4_vouchesByList_2 rfl (lv_at hl 2 rfl) ?_
  have hS := hS.mono (B := qA 18 q) (fun _ h => h.elim)
  refine rw_i (w' := wM cy q A (uS S 5 (if noR b nb = true then 1 else if inR sg 4 = true then 0 else 2))) (va_runV (As := [.int b, .int sg]) (rest := []) ⟨hx, hb, hml, hown, hts⟩ (c_X4_vouched l D cy h0 q A S b sg nk hnk hck nb hnb hcb) (cwV 2 hts gX4_vouchesByList_X4_vouched rfl rfl rfl (by decide +kernel) ⟨Nat.le_of_ble_eq_true rfl, Nat.le_of_ble_eq_true rfl⟩) (hI.preV (k0 := 0) rfl rfl) rfl rfl hl.1 rfl (lv_room (Nat.le_of_ble_eq_true rfl)) dX4_vouchesByList_3 ⟨Nat.le_of_ble_eq_true rfl, Nat.le_of_ble_eq_true rfl⟩) hI hS (fun _ h => h) hqA (fun H locs hI hS => ?_)
  rw [show wM cy q A (uS S 5 (if noR b nb = true then 1 else if inR sg 4 = true then 0 else 2)) = wM cy q A (uS S 5 (mcVouch b sg nb)) from rfl] at hI
  exact end_rwz hx hb hr (nz_bI _) rfl hI hS dX4_vouchesByList_6 hlk

set_option maxHeartbeats 4000000 in
set_option maxRecDepth 100000 in
theorem c_X4_score (l : Launch) (D : va_G) (cy : Nat → ClassId) (h0 : Nat) (q : Nat → Nat) (A : Nat → Nat → Int32) (S : Nat → Int32) (b : Int32) (nk : Nat) (hnk : nk ≤ 8) (hck : S 0 = nI nk) (nb : Nat) (hnb : nb ≤ 24) (hcb : S 1 = nI nb) : Met l yX4_score wsX4_score (rmO 5 91) (va_Pc [.ref (q 0), .int b] (pI D cy h0 (wM cy q A S))) (rwF (if mcR b nb = 0 then smF A S (ix b) (-1) nk 4 else FP.fconst0) D cy h0 (wM cy q A (uS S 5 (mcR b nb))) (qA 18 q)) 0 0 (qA 18 q) := by
  refine Met.ofW (cc := cX4_score) (maxL := 2) (ret := (some .float)) (by decide) rfl ?_
  intro p e s m args below meth c s₁ B hml hv
  obtain ⟨rfl, hI⟩ := hv
  have hx := B.exec
  have hb := B.bytes
  have hr := B.returns
  have hts := atoms_spec (ws := wsX4_score) B.pre
  have hown : s.vm.findClass RX4 = some m.cls := findClass_of_methodNamed B.named
  have hlk := B.notSynchronized
  have hI : IH D cy h0 (wM cy q A S) s s.heap := hI
  have hG := hI.1
  have hqA := hA_M hI
  have hh0 : h0 ≤ s.heap.size := hI.1.2.2.2
  have hS : va_S nof s.heap s.heap [] := va_S.rf
  have hi4 : ∀ w ∈ wsX40, w ∈ wsX4_score := by decide +kernel
  have hl := lv_entry ([.ref (q 0), .int b]) (n := 2) (Nat.le_of_ble_eq_true rfl)
  rw [lg_entry_eq]
  generalize (lg_sl ([.ref (q 0), .int b]) ++ List.replicate (2 - (lg_sl ([.ref (q 0), .int b])).length) Slot.unset).toArray = ls at hl ⊢
  have hl : lv_has ls 2 [(0, .ref (q 0)), (1, .int b)] := hl
  refine lv_aload_n hx hb dX4_score_0 rfl (lv_at hl 0 rfl) ?_
  refine lv_iload_n hx hb dX4_score_1 rfl (lv_at hl 1 rfl) ?_
  have hS := hS.mono (B := qA 18 q) (fun _ h => h.elim)
  refine rw_i (w' := wM cy q A (uS S 5 (bI (noR b nb)))) (va_runV (As := [.int b]) (rest := []) ⟨hx, hb, hml, hown, hts⟩ (c_X4_isNoBuild l D cy h0 q A S b nb hnb hcb) (cwV 1 hts gX4_score_X4_isNoBuild rfl rfl rfl (by decide +kernel) ⟨Nat.le_of_ble_eq_true rfl, Nat.le_of_ble_eq_true rfl⟩) (hI.preV (k0 := 0) rfl rfl) rfl rfl hl.1 rfl (lv_room (Nat.le_of_ble_eq_true rfl)) dX4_score_2 ⟨Nat.le_of_ble_eq_true rfl, Nat.le_of_ble_eq_true rfl⟩) hI hS (fun _ h => h) hqA (fun H locs hI hS => ?_)
  refine r_ifeq_b (tgt := 12) hx hb dX4_score_5 (by decide) (fun c5_1 => ?_) (fun c5_1 => ?_)
  · obtain ⟨hj_b, hk_b⟩ := noR_c (by omega) c5_1
    refine lv_aload_n hx hb dX4_score_12 rfl (lv_at hl 0 rfl) ?_
    refine lv_iload_n hx hb dX4_score_13 rfl (lv_at hl 1 rfl) ?_
    refine lv_iconst (v := (-1)) hx hb dX4_score_14 (by decide) ?_
    refine ro_f (va_runV (As := [.int b, .int (-1)]) (rest := []) ⟨hx, hb, hml, hown, hts⟩ (c_X4_scoreOf l D cy h0 q A (uS S 5 (bI (noR b nb))) b (-1) nk hnk hck (ix b) (by omega) hk_b) (cwV 2 hts gX4_score_X4_scoreOf rfl rfl rfl (by decide +kernel) ⟨Nat.le_of_ble_eq_true rfl, Nat.le_of_ble_eq_true rfl⟩) (hI.preV (k0 := 0) rfl rfl) rfl rfl hl.1 rfl (lv_room (Nat.le_of_ble_eq_true rfl)) dX4_score_15 ⟨Nat.le_of_ble_eq_true rfl, Nat.le_of_ble_eq_true rfl⟩) hI hS (fun H locs hI hS => ?_)
    rw [smF_5]
    rw [show wM cy q A (uS S 5 (bI (noR b nb))) = wM cy q A (uS S 5 (mcR b nb)) from (wM_A (by first | rfl | (simp only [mcR, bI, c5_1,  ↓reduceIte, Bool.false_eq_true, reduceCtorEq, i10, i20, i30, i40]; done) | simp [mcR, bI, c5_1, ]) (by first | rfl | (simp only [mcR, bI, c5_1,  ↓reduceIte, Bool.false_eq_true, reduceCtorEq, i10, i20, i30, i40]; done) | simp [mcR, bI, c5_1, ]))] at hI
    exact end_rwf hx hb hr (by first | (simp only [mcR, bI, c5_1,  ↓reduceIte, Bool.false_eq_true, reduceCtorEq, i10, i20, i30, i40]; done) | simp [mcR, bI, c5_1, ]) hI hS dX4_score_18 hlk
  · refine lv_fconst0 hx hb dX4_score_8 ?_
    refine lv_goto (tgt := 18) hx hb dX4_score_9 (by decide) ?_
    rw [show wM cy q A (uS S 5 (bI (noR b nb))) = wM cy q A (uS S 5 (mcR b nb)) from (wM_A (by first | rfl | (simp only [mcR, bI, c5_1,  ↓reduceIte, Bool.false_eq_true, reduceCtorEq, i10, i20, i30, i40]; done) | simp [mcR, bI, c5_1, ]) (by first | rfl | (simp only [mcR, bI, c5_1,  ↓reduceIte, Bool.false_eq_true, reduceCtorEq, i10, i20, i30, i40]; done) | simp [mcR, bI, c5_1, ]))] at hI
    exact end_rwf hx hb hr (by first | (simp only [mcR, bI, c5_1,  ↓reduceIte, Bool.false_eq_true, reduceCtorEq, i10, i20, i30, i40]; done) | simp [mcR, bI, c5_1, ]) hI hS dX4_score_18 hlk

set_option maxHeartbeats 4000000 in
set_option maxRecDepth 100000 in
theorem c_X4_isTrusted (l : Launch) (D : va_G) (cy : Nat → ClassId) (h0 : Nat) (q : Nat → Nat) (A : Nat → Nat → Int32) (S : Nat → Int32) (b : Int32) (nk : Nat) (hnk : nk ≤ 8) (hck : S 0 = nI nk) (nb : Nat) (hnb : nb ≤ 24) (hcb : S 1 = nI nb) (htn : ∀ b, b < nb → ∃ t, t < 5 ∧ A 6 b = nI t) : Met l yX4_isTrusted wsX4_isTrusted (rmO 6 113) (va_Pc [.ref (q 0), .int b] (pI D cy h0 (wM cy q A S))) (rwI (bI (!noR b nb && enB A S (ix b) (-1) nk)) D cy h0 (wM cy q A (uS S 5 (mcR b nb))) (qA 18 q)) 0 0 (qA 18 q) := by
  refine Met.ofW (cc := cX4_isTrusted) (maxL := 2) (ret := (some .boolean)) (by decide) rfl ?_
  intro p e s m args below meth c s₁ B hml hv
  obtain ⟨rfl, hI⟩ := hv
  have hx := B.exec
  have hb := B.bytes
  have hr := B.returns
  have hts := atoms_spec (ws := wsX4_isTrusted) B.pre
  have hown : s.vm.findClass RX4 = some m.cls := findClass_of_methodNamed B.named
  have hlk := B.notSynchronized
  have hI : IH D cy h0 (wM cy q A S) s s.heap := hI
  have hG := hI.1
  have hqA := hA_M hI
  have hh0 : h0 ≤ s.heap.size := hI.1.2.2.2
  have hS : va_S nof s.heap s.heap [] := va_S.rf
  have hi4 : ∀ w ∈ wsX40, w ∈ wsX4_isTrusted := by decide +kernel
  have hl := lv_entry ([.ref (q 0), .int b]) (n := 2) (Nat.le_of_ble_eq_true rfl)
  rw [lg_entry_eq]
  generalize (lg_sl ([.ref (q 0), .int b]) ++ List.replicate (2 - (lg_sl ([.ref (q 0), .int b])).length) Slot.unset).toArray = ls at hl ⊢
  have hl : lv_has ls 2 [(0, .ref (q 0)), (1, .int b)] := hl
  refine lv_aload_n hx hb dX4_isTrusted_0 rfl (lv_at hl 0 rfl) ?_
  refine lv_iload_n hx hb dX4_isTrusted_1 rfl (lv_at hl 1 rfl) ?_
  have hS := hS.mono (B := qA 18 q) (fun _ h => h.elim)
  refine rw_i (w' := wM cy q A (uS S 5 (bI (noR b nb)))) (va_runV (As := [.int b]) (rest := []) ⟨hx, hb, hml, hown, hts⟩ (c_X4_isNoBuild l D cy h0 q A S b nb hnb hcb) (cwV 1 hts gX4_isTrusted_X4_isNoBuild rfl rfl rfl (by decide +kernel) ⟨Nat.le_of_ble_eq_true rfl, Nat.le_of_ble_eq_true rfl⟩) (hI.preV (k0 := 0) rfl rfl) rfl rfl hl.1 rfl (lv_room (Nat.le_of_ble_eq_true rfl)) dX4_isTrusted_2 ⟨Nat.le_of_ble_eq_true rfl, Nat.le_of_ble_eq_true rfl⟩) hI hS (fun _ h => h) hqA (fun H locs hI hS => ?_)
  refine r_ifne_b (tgt := 21) hx hb dX4_isTrusted_5 (by decide) (fun c5_1 => ?_) (fun c5_1 => ?_)
  · refine lv_iconst (v := 0) hx hb dX4_isTrusted_21 (by decide) ?_
    rw [show wM cy q A (uS S 5 (bI (noR b nb))) = wM cy q A (uS S 5 (mcR b nb)) from (wM_A (by first | rfl | (simp only [bI, mcR, c5_1,  ↓reduceIte, Bool.false_eq_true, reduceCtorEq, i10, i20, i30, i40]; done) | simp [bI, mcR, c5_1, ]) (by first | rfl | (simp only [bI, mcR, c5_1,  ↓reduceIte, Bool.false_eq_true, reduceCtorEq, i10, i20, i30, i40]; done) | simp [bI, mcR, c5_1, ]))] at hI
    exact end_rwz hx hb hr rfl (by first | (simp only [bI, mcR, c5_1,  ↓reduceIte, Bool.false_eq_true, reduceCtorEq, i10, i20, i30, i40]; done) | simp [bI, mcR, c5_1, ]) hI hS dX4_isTrusted_22 hlk
  · obtain ⟨hj_b, hk_b⟩ := noR_c (by omega) c5_1
    refine lv_aload_n hx hb dX4_isTrusted_8 rfl (lv_at hl 0 rfl) ?_
    refine lv_iload_n hx hb dX4_isTrusted_9 rfl (lv_at hl 1 rfl) ?_
    refine lv_iconst (v := (-1)) hx hb dX4_isTrusted_10 (by decide) ?_
    refine ro_i (va_runV (As := [.int b, .int (-1)]) (rest := []) ⟨hx, hb, hml, hown, hts⟩ (c_X4_isEnough l D cy h0 q A (uS S 5 (bI (noR b nb))) b (-1) nk hnk hck (ix b) (by omega) hk_b (htn _ (by omega))) (cwV 2 hts gX4_isTrusted_X4_isEnough rfl rfl rfl (by decide +kernel) ⟨Nat.le_of_ble_eq_true rfl, Nat.le_of_ble_eq_true rfl⟩) (hI.preV (k0 := 0) rfl rfl) rfl rfl hl.1 rfl (lv_room (Nat.le_of_ble_eq_true rfl)) dX4_isTrusted_11 ⟨Nat.le_of_ble_eq_true rfl, Nat.le_of_ble_eq_true rfl⟩) hI hS (fun H locs hI hS => ?_)
    rw [enB_5]
    refine r_ifeq_b (tgt := 21) hx hb dX4_isTrusted_14 (by decide) (fun c14_2 => ?_) (fun c14_2 => ?_)
    · refine lv_iconst (v := 0) hx hb dX4_isTrusted_21 (by decide) ?_
      rw [show wM cy q A (uS S 5 (bI (noR b nb))) = wM cy q A (uS S 5 (mcR b nb)) from (wM_A (by first | rfl | (simp only [bI, mcR, c5_1, c14_2,  ↓reduceIte, Bool.false_eq_true, reduceCtorEq, i10, i20, i30, i40]; done) | simp [bI, mcR, c5_1, c14_2, ]) (by first | rfl | (simp only [bI, mcR, c5_1, c14_2,  ↓reduceIte, Bool.false_eq_true, reduceCtorEq, i10, i20, i30, i40]; done) | simp [bI, mcR, c5_1, c14_2, ]))] at hI
      exact end_rwz hx hb hr rfl (by first | (simp only [bI, mcR, c5_1, c14_2,  ↓reduceIte, Bool.false_eq_true, reduceCtorEq, i10, i20, i30, i40]; done) | simp [bI, mcR, c5_1, c14_2, ]) hI hS dX4_isTrusted_22 hlk
    · refine lv_iconst (v := 1) hx hb dX4_isTrusted_17 (by decide) ?_
      refine lv_goto (tgt := 22) hx hb dX4_isTrusted_18 (by decide) ?_
      rw [show wM cy q A (uS S 5 (bI (noR b nb))) = wM cy q A (uS S 5 (mcR b nb)) from (wM_A (by first | rfl | (simp only [bI, mcR, c5_1, c14_2,  ↓reduceIte, Bool.false_eq_true, reduceCtorEq, i10, i20, i30, i40]; done) | simp [bI, mcR, c5_1, c14_2, ]) (by first | rfl | (simp only [bI, mcR, c5_1, c14_2,  ↓reduceIte, Bool.false_eq_true, reduceCtorEq, i10, i20, i30, i40]; done) | simp [bI, mcR, c5_1, c14_2, ]))] at hI
      exact end_rwz hx hb hr rfl (by first | (simp only [bI, mcR, c5_1, c14_2,  ↓reduceIte, Bool.false_eq_true, reduceCtorEq, i10, i20, i30, i40]; done) | simp [bI, mcR, c5_1, c14_2, ]) hI hS dX4_isTrusted_22 hlk

set_option maxHeartbeats 4000000 in
set_option maxRecDepth 100000 in
theorem c_X4_hangsOnKey (l : Launch) (D : va_G) (cy : Nat → ClassId) (h0 : Nat) (q : Nat → Nat) (A : Nat → Nat → Int32) (S : Nat → Int32) (key : Int32) (nk : Nat) (hnk : nk ≤ 8) (hck : S 0 = nI nk) (nb : Nat) (hnb : nb ≤ 24) (hcb : S 1 = nI nb) (htn : ∀ b, b < nb → ∃ t, t < 5 ∧ A 6 b = nI t) : Met l yX4_hangsOnKey wsX4_hangsOnKey (rmO 8 156) (va_Pc [.ref (q 0), .int key] (pI D cy h0 (wM cy q A S))) (rwI (if mcR key nk = 0 then btF (twF A S (-1) nk nb &&& (twF A S key nk nb ^^^ (-1))) 24 else 0) D cy h0 (wM cy q A (uS S 5 (mcR key nk))) (qA 18 q)) 0 0 (qA 18 q) := by
  refine Met.ofW (cc := cX4_hangsOnKey) (maxL := 2) (ret := (some .int)) (by decide) rfl ?_
  intro p e s m args below meth c s₁ B hml hv
  obtain ⟨rfl, hI⟩ := hv
  have hx := B.exec
  have hb := B.bytes
  have hr := B.returns
  have hts := atoms_spec (ws := wsX4_hangsOnKey) B.pre
  have hown : s.vm.findClass RX4 = some m.cls := findClass_of_methodNamed B.named
  have hlk := B.notSynchronized
  have hI : IH D cy h0 (wM cy q A S) s s.heap := hI
  have hG := hI.1
  have hqA := hA_M hI
  have hh0 : h0 ≤ s.heap.size := hI.1.2.2.2
  have hS : va_S nof s.heap s.heap [] := va_S.rf
  have hi4 : ∀ w ∈ wsX40, w ∈ wsX4_hangsOnKey := by decide +kernel
  have hl := lv_entry ([.ref (q 0), .int key]) (n := 2) (Nat.le_of_ble_eq_true rfl)
  rw [lg_entry_eq]
  generalize (lg_sl ([.ref (q 0), .int key]) ++ List.replicate (2 - (lg_sl ([.ref (q 0), .int key])).length) Slot.unset).toArray = ls at hl ⊢
  have hl : lv_has ls 2 [(0, .ref (q 0)), (1, .int key)] := hl
  refine lv_aload_n hx hb dX4_hangsOnKey_0 rfl (lv_at hl 0 rfl) ?_
  refine lv_iload_n hx hb dX4_hangsOnKey_1 rfl (lv_at hl 1 rfl) ?_
  have hS := hS.mono (B := qA 18 q) (fun _ h => h.elim)
  refine rw_i (w' := wM cy q A (uS S 5 (bI (noR key nk)))) (va_runV (As := [.int key]) (rest := []) ⟨hx, hb, hml, hown, hts⟩ (c_X4_isNoKey l D cy h0 q A S key nk hnk hck) (cwV 1 hts gX4_hangsOnKey_X4_isNoKey rfl rfl rfl (by decide +kernel) ⟨Nat.le_of_ble_eq_true rfl, Nat.le_of_ble_eq_true rfl⟩) (hI.preV (k0 := 0) rfl rfl) rfl rfl hl.1 rfl (lv_room (Nat.le_of_ble_eq_true rfl)) dX4_hangsOnKey_2 ⟨Nat.le_of_ble_eq_true rfl, Nat.le_of_ble_eq_true rfl⟩) hI hS (fun _ h => h) hqA (fun H locs hI hS => ?_)
  refine r_ifeq_b (tgt := 12) hx hb dX4_hangsOnKey_5 (by decide) (fun c5_1 => ?_) (fun c5_1 => ?_)
  · obtain ⟨hj_key, hk_key⟩ := noR_c (by omega) c5_1
    refine lv_aload_n hx hb dX4_hangsOnKey_12 rfl (lv_at hl 0 rfl) ?_
    refine ro_i (va_runV (As := []) (rest := []) ⟨hx, hb, hml, hown, hts⟩ (c_X4_trusted l D cy h0 q A (uS S 5 (bI (noR key nk))) nk hnk hck nb hnb hcb htn) (cwV 0 hts gX4_hangsOnKey_X4_trusted rfl rfl rfl (by decide +kernel) ⟨Nat.le_of_ble_eq_true rfl, Nat.le_of_ble_eq_true rfl⟩) (hI.preV (k0 := 0) rfl rfl) rfl rfl hl.1 rfl (lv_room (Nat.le_of_ble_eq_true rfl)) dX4_hangsOnKey_13 ⟨Nat.le_of_ble_eq_true rfl, Nat.le_of_ble_eq_true rfl⟩) hI hS (fun H locs hI hS => ?_)
    rw [twF_5]
    refine lv_aload_n hx hb dX4_hangsOnKey_16 rfl (lv_at hl 0 rfl) ?_
    refine lv_iload_n hx hb dX4_hangsOnKey_17 rfl (lv_at hl 1 rfl) ?_
    refine ro_i (va_runV (As := [.int key]) (rest := [.int (twF A S (-1) nk nb)]) ⟨hx, hb, hml, hown, hts⟩ (c_X4_trustedWithout l D cy h0 q A (uS S 5 (bI (noR key nk))) key nk hnk hck nb hnb hcb htn) (cwV 1 hts gX4_hangsOnKey_X4_trustedWithout rfl rfl rfl (by decide +kernel) ⟨Nat.le_of_ble_eq_true rfl, Nat.le_of_ble_eq_true rfl⟩) (hI.preV (k0 := 0) rfl rfl) rfl rfl hl.1 rfl (lv_room (Nat.le_of_ble_eq_true rfl)) dX4_hangsOnKey_18 ⟨Nat.le_of_ble_eq_true rfl, Nat.le_of_ble_eq_true rfl⟩) hI hS (fun H locs hI hS => ?_)
    rw [twF_5]
    refine lv_iconst (v := (-1)) hx hb dX4_hangsOnKey_21 (by decide) ?_
    refine lv_ixor hx hb dX4_hangsOnKey_22 ?_
    refine lv_iand hx hb dX4_hangsOnKey_23 ?_
    refine ro_i (va_runS (As := [.int ((twF A S (-1) nk nb) &&& ((twF A S key nk nb) ^^^ (-1)))]) (rest := []) ⟨hx, hb, hml, hown, hts⟩ (c_X4_bits l ((twF A S (-1) nk nb) &&& ((twF A S key nk nb) ^^^ (-1)))) (va_cwS 1 hts gX4_hangsOnKey_X4_bits rfl rfl rfl (by decide +kernel) ⟨Nat.le_of_ble_eq_true rfl, Nat.le_of_ble_eq_true rfl⟩) preT rfl rfl hl.1 rfl (lv_room (Nat.le_of_ble_eq_true rfl)) dX4_hangsOnKey_24 ⟨Nat.le_of_ble_eq_true rfl, Nat.le_of_ble_eq_true rfl⟩) hI hS (fun H locs hI hS => ?_)
    rw [show wM cy q A (uS S 5 (bI (noR key nk))) = wM cy q A (uS S 5 (mcR key nk)) from (wM_A (by first | rfl | (simp only [mcR, bI, c5_1,  ↓reduceIte, Bool.false_eq_true, reduceCtorEq, i10, i20, i30, i40]; done) | simp [mcR, bI, c5_1, ]) (by first | rfl | (simp only [mcR, bI, c5_1,  ↓reduceIte, Bool.false_eq_true, reduceCtorEq, i10, i20, i30, i40]; done) | simp [mcR, bI, c5_1, ]))] at hI
    exact end_rwi hx hb hr (by first | (simp only [mcR, bI, c5_1,  ↓reduceIte, Bool.false_eq_true, reduceCtorEq, i10, i20, i30, i40]; done) | simp [mcR, bI, c5_1, ]) hI hS dX4_hangsOnKey_27 hlk
  · refine lv_iconst (v := 0) hx hb dX4_hangsOnKey_8 (by decide) ?_
    refine lv_goto (tgt := 27) hx hb dX4_hangsOnKey_9 (by decide) ?_
    rw [show wM cy q A (uS S 5 (bI (noR key nk))) = wM cy q A (uS S 5 (mcR key nk)) from (wM_A (by first | rfl | (simp only [mcR, bI, c5_1,  ↓reduceIte, Bool.false_eq_true, reduceCtorEq, i10, i20, i30, i40]; done) | simp [mcR, bI, c5_1, ]) (by first | rfl | (simp only [mcR, bI, c5_1,  ↓reduceIte, Bool.false_eq_true, reduceCtorEq, i10, i20, i30, i40]; done) | simp [mcR, bI, c5_1, ]))] at hI
    exact end_rwi hx hb hr (by first | (simp only [mcR, bI, c5_1,  ↓reduceIte, Bool.false_eq_true, reduceCtorEq, i10, i20, i30, i40]; done) | simp [mcR, bI, c5_1, ]) hI hS dX4_hangsOnKey_27 hlk

set_option maxHeartbeats 4000000 in
set_option maxRecDepth 100000 in
theorem c_X4_marks (l : Launch) (D : va_G) (cy : Nat → ClassId) (h0 : Nat) (q : Nat → Nat) (A : Nat → Nat → Int32) (S : Nat → Int32) (b : Int32) (isM : Int32) (nb : Nat) (hnb : nb ≤ 24) (hcb : S 1 = nI nb) (hz : vp_nar .boolean isM = isM) : Met l yX4_marks wsX4_marks (rmO 3 44) (va_Pc [.ref (q 0), .int b, .int isM] (pI D cy h0 (wM cy q A S))) (rwI (if mcMarks A b isM nb = 0 then btF (rmF A nb ^^^ rmF (mkA A b isM) nb) 24 else 0) D cy h0 (wM cy q (if mcMarks A b isM nb = 0 then mkA A b isM else A) (uS S 5 (mcMarks A b isM nb))) (qA 18 q)) 0 0 (qA 18 q) := by
  refine Met.ofW (cc := cX4_marks) (maxL := 4) (ret := (some .int)) (by decide) rfl ?_
  intro p e s m args below meth c s₁ B hml hv
  obtain ⟨rfl, hI⟩ := hv
  have hx := B.exec
  have hb := B.bytes
  have hr := B.returns
  have hts := atoms_spec (ws := wsX4_marks) B.pre
  have hown : s.vm.findClass RX4 = some m.cls := findClass_of_methodNamed B.named
  have hlk := B.notSynchronized
  have hI : IH D cy h0 (wM cy q A S) s s.heap := hI
  have hG := hI.1
  have hqA := hA_M hI
  have hh0 : h0 ≤ s.heap.size := hI.1.2.2.2
  have hS : va_S nof s.heap s.heap [] := va_S.rf
  have hi4 : ∀ w ∈ wsX40, w ∈ wsX4_marks := by decide +kernel
  have hl := lv_entry ([.ref (q 0), .int b, .int isM]) (n := 4) (Nat.le_of_ble_eq_true rfl)
  rw [lg_entry_eq]
  generalize (lg_sl ([.ref (q 0), .int b, .int isM]) ++ List.replicate (4 - (lg_sl ([.ref (q 0), .int b, .int isM])).length) Slot.unset).toArray = ls at hl ⊢
  have hl : lv_has ls 4 [(0, .ref (q 0)), (1, .int b), (2, .int isM)] := hl
  refine lv_aload_n hx hb dX4_marks_0 rfl (lv_at hl 0 rfl) ?_
  refine lv_iload_n hx hb dX4_marks_1 rfl (lv_at hl 1 rfl) ?_
  have hS := hS.mono (B := qA 18 q) (fun _ h => h.elim)
  refine rw_i (w' := wM cy q A (uS S 5 (bI (noR b nb)))) (va_runV (As := [.int b]) (rest := []) ⟨hx, hb, hml, hown, hts⟩ (c_X4_isNoBuild l D cy h0 q A S b nb hnb hcb) (cwV 1 hts gX4_marks_X4_isNoBuild rfl rfl rfl (by decide +kernel) ⟨Nat.le_of_ble_eq_true rfl, Nat.le_of_ble_eq_true rfl⟩) (hI.preV (k0 := 0) rfl rfl) rfl rfl hl.1 rfl (lv_room (Nat.le_of_ble_eq_true rfl)) dX4_marks_2 ⟨Nat.le_of_ble_eq_true rfl, Nat.le_of_ble_eq_true rfl⟩) hI hS (fun _ h => h) hqA (fun H locs hI hS => ?_)
  refine r_ifne_b (tgt := 30) hx hb dX4_marks_5 (by decide) (fun c5_1 => ?_) (fun c5_1 => ?_)
  · refine lv_iconst (v := 0) hx hb dX4_marks_30 (by decide) ?_
    rw [show wM cy q A (uS S 5 (bI (noR b nb))) = wM cy q (if mcMarks A b isM nb = 0 then mkA A b isM else A) (uS S 5 (mcMarks A b isM nb)) from (wM_A (by first | rfl | (simp only [mkA, mcMarks, bI, c5_1,  ↓reduceIte, Bool.false_eq_true, reduceCtorEq, i10, i20, i30, i40]; done) | simp [mkA, mcMarks, bI, c5_1, ]) (by first | rfl | (simp only [mkA, mcMarks, bI, c5_1,  ↓reduceIte, Bool.false_eq_true, reduceCtorEq, i10, i20, i30, i40]; done) | simp [mkA, mcMarks, bI, c5_1, ]))] at hI
    exact end_rwi hx hb hr (by first | (simp only [mkA, mcMarks, bI, c5_1,  ↓reduceIte, Bool.false_eq_true, reduceCtorEq, i10, i20, i30, i40]; done) | simp [mkA, mcMarks, bI, c5_1, ]) hI hS dX4_marks_31 hlk
  · obtain ⟨hj_b, hk_b⟩ := noR_c (by omega) c5_1
    refine lv_aload_n hx hb dX4_marks_8 rfl (lv_at hl 0 rfl) ?_
    refine lv_aload_n hx hb dX4_marks_9 rfl (lv_at hl 0 rfl) ?_
    refine r_get (C := RX4) (T := TX4) (N := 23) (k := 13) (q0 := 0) (v := .ref (q 12)) hx hb hts hi4 hown hI rfl rfl (by decide) (hts (.fieldLink RX4 44 "BuildlotsModel" "areMarked" "[Z") (List.mem_of_getElem? (i := 1) rfl)) rfl rfl dX4_marks_10 ?_
    refine lv_iload_n hx hb dX4_marks_13 rfl (lv_at hl 1 rfl) ?_
    refine r_zald (q0 := 12) (j := (ix b)) (n := 24) (f := (A 11)) hx hb hI rfl hk_b (by omega) (by decide) dX4_marks_14 ?_
    refine lv_iload_n hx hb dX4_marks_15 rfl (lv_at hl 2 rfl) ?_
    refine lv_icmp_ne (tgt := 23) hx hb dX4_marks_16 (by decide) (fun c16_2 => ?_) (fun c16_2 => ?_)
    · refine lv_iconst (v := 0) hx hb dX4_marks_23 (by decide) ?_
      refine rw_i (w' := wM cy q A (uS (uS S 5 (bI (noR b nb))) 5 0)) (va_runV (As := [.int 0]) (rest := []) ⟨hx, hb, hml, hown, hts⟩ (c_X4_fails l D cy h0 q A (uS S 5 (bI (noR b nb))) 0) (cwV 1 hts gX4_marks_X4_fails rfl rfl rfl (by decide +kernel) ⟨Nat.le_of_ble_eq_true rfl, Nat.le_of_ble_eq_true rfl⟩) (hI.preV (k0 := 0) rfl rfl) rfl rfl hl.1 rfl (lv_room (Nat.le_of_ble_eq_true rfl)) dX4_marks_24 ⟨Nat.le_of_ble_eq_true rfl, Nat.le_of_ble_eq_true rfl⟩) hI hS (fun _ h => h) hqA (fun H locs hI hS => ?_)
      rw [uS_uS] at hI
      rw [show (bI (failsB 0)) = 0 from (by decide)]
      refine lv_if_eq (tgt := 32) hx hb dX4_marks_27 (by decide) (fun c27_3 => ?_) (fun c27_3 => ?_)
      rotate_left
      · exact absurd c27_3 (by decide)
      refine lv_aload_n hx hb dX4_marks_32 rfl (lv_at hl 0 rfl) ?_
      refine ro_i (va_runV (As := []) (rest := []) ⟨hx, hb, hml, hown, hts⟩ (c_X4_recalled l D cy h0 q A (uS S 5 0) nb hnb hcb) (cwV 0 hts gX4_marks_X4_recalled rfl rfl rfl (by decide +kernel) ⟨Nat.le_of_ble_eq_true rfl, Nat.le_of_ble_eq_true rfl⟩) (hI.preV (k0 := 0) rfl rfl) rfl rfl hl.1 rfl (lv_room (Nat.le_of_ble_eq_true rfl)) dX4_marks_33 ⟨Nat.le_of_ble_eq_true rfl, Nat.le_of_ble_eq_true rfl⟩) hI hS (fun H locs hI hS => ?_)
      refine lv_istore_n (lv' := [(3, .int (rmF A nb)), (0, .ref (q 0)), (1, .int b), (2, .int isM)]) hx hb dX4_marks_36 rfl hl (by decide) rfl (fun ls hl => ?_)
      refine lv_aload_n hx hb dX4_marks_37 rfl (lv_at hl 1 rfl) ?_
      refine r_get (C := RX4) (T := TX4) (N := 23) (k := 13) (q0 := 0) (v := .ref (q 12)) hx hb hts hi4 hown hI rfl rfl (by decide) (hts (.fieldLink RX4 44 "BuildlotsModel" "areMarked" "[Z") (List.mem_of_getElem? (i := 1) rfl)) rfl rfl dX4_marks_38 ?_
      refine lv_iload_n hx hb dX4_marks_41 rfl (lv_at hl 2 rfl) ?_
      refine lv_iload_n hx hb dX4_marks_42 rfl (lv_at hl 3 rfl) ?_
      refine r_zast (w' := wM cy q (uA A 11 (upd (A 11) (ix b) isM)) (uS S 5 0)) (q0 := 12) (j := (ix b)) (n := 24) (f := (A 11)) hx hb hI hS hqA hh0 (qA_M hI) rfl hk_b (by omega) (by decide) hz dX4_marks_43 rfl (fun H locs hI hS => ?_)
      refine lv_iload_n hx hb dX4_marks_44 rfl (lv_at hl 0 rfl) ?_
      refine lv_aload_n hx hb dX4_marks_45 rfl (lv_at hl 1 rfl) ?_
      refine ro_i (va_runV (As := []) (rest := [.int (rmF A nb)]) ⟨hx, hb, hml, hown, hts⟩ (c_X4_recalled l D cy h0 q (uA A 11 (upd (A 11) (ix b) isM)) (uS S 5 0) nb hnb hcb) (cwV 0 hts gX4_marks_X4_recalled rfl rfl rfl (by decide +kernel) ⟨Nat.le_of_ble_eq_true rfl, Nat.le_of_ble_eq_true rfl⟩) (hI.preV (k0 := 0) rfl rfl) rfl rfl hl.1 rfl (lv_room (Nat.le_of_ble_eq_true rfl)) dX4_marks_46 ⟨Nat.le_of_ble_eq_true rfl, Nat.le_of_ble_eq_true rfl⟩) hI hS (fun H locs hI hS => ?_)
      refine lv_ixor hx hb dX4_marks_49 ?_
      refine ro_i (va_runS (As := [.int ((rmF A nb) ^^^ (rmF (uA A 11 (upd (A 11) (ix b) isM)) nb))]) (rest := []) ⟨hx, hb, hml, hown, hts⟩ (c_X4_bits l ((rmF A nb) ^^^ (rmF (uA A 11 (upd (A 11) (ix b) isM)) nb))) (va_cwS 1 hts gX4_marks_X4_bits rfl rfl rfl (by decide +kernel) ⟨Nat.le_of_ble_eq_true rfl, Nat.le_of_ble_eq_true rfl⟩) preT rfl rfl hl.1 rfl (lv_room (Nat.le_of_ble_eq_true rfl)) dX4_marks_50 ⟨Nat.le_of_ble_eq_true rfl, Nat.le_of_ble_eq_true rfl⟩) hI hS (fun H locs hI hS => ?_)
      rw [show wM cy q (uA A 11 (upd (A 11) (ix b) isM)) (uS S 5 0) = wM cy q (if mcMarks A b isM nb = 0 then mkA A b isM else A) (uS S 5 (mcMarks A b isM nb)) from (wM_A (by first | rfl | (simp only [mkA, mcMarks, bI, c5_1, c16_2,  ↓reduceIte, Bool.false_eq_true, reduceCtorEq, i10, i20, i30, i40]; done) | simp [mkA, mcMarks, bI, c5_1, c16_2, ]) (by first | rfl | (simp only [mkA, mcMarks, bI, c5_1, c16_2,  ↓reduceIte, Bool.false_eq_true, reduceCtorEq, i10, i20, i30, i40]; done) | simp [mkA, mcMarks, bI, c5_1, c16_2, ]))] at hI
      exact end_rwi hx hb hr (by first | (simp only [mkA, mcMarks, bI, c5_1, c16_2,  ↓reduceIte, Bool.false_eq_true, reduceCtorEq, i10, i20, i30, i40]; done) | simp [mkA, mcMarks, bI, c5_1, c16_2, ]) hI hS dX4_marks_53 hlk
    · refine lv_iconst (v := 2) hx hb dX4_marks_19 (by decide) ?_
      refine lv_goto (tgt := 24) hx hb dX4_marks_20 (by decide) ?_
      refine rw_i (w' := wM cy q A (uS (uS S 5 (bI (noR b nb))) 5 2)) (va_runV (As := [.int 2]) (rest := []) ⟨hx, hb, hml, hown, hts⟩ (c_X4_fails l D cy h0 q A (uS S 5 (bI (noR b nb))) 2) (cwV 1 hts gX4_marks_X4_fails rfl rfl rfl (by decide +kernel) ⟨Nat.le_of_ble_eq_true rfl, Nat.le_of_ble_eq_true rfl⟩) (hI.preV (k0 := 0) rfl rfl) rfl rfl hl.1 rfl (lv_room (Nat.le_of_ble_eq_true rfl)) dX4_marks_24 ⟨Nat.le_of_ble_eq_true rfl, Nat.le_of_ble_eq_true rfl⟩) hI hS (fun _ h => h) hqA (fun H locs hI hS => ?_)
      rw [uS_uS] at hI
      rw [show (bI (failsB 2)) = 1 from (by decide)]
      refine lv_if_eq (tgt := 32) hx hb dX4_marks_27 (by decide) (fun c27_4 => ?_) (fun c27_4 => ?_)
      · exact absurd c27_4 (by decide)
      refine lv_iconst (v := 0) hx hb dX4_marks_30 (by decide) ?_
      rw [show wM cy q A (uS S 5 2) = wM cy q (if mcMarks A b isM nb = 0 then mkA A b isM else A) (uS S 5 (mcMarks A b isM nb)) from (wM_A (by first | rfl | (simp only [mkA, mcMarks, bI, c5_1, c16_2,  ↓reduceIte, Bool.false_eq_true, reduceCtorEq, i10, i20, i30, i40]; done) | simp [mkA, mcMarks, bI, c5_1, c16_2, ]) (by first | rfl | (simp only [mkA, mcMarks, bI, c5_1, c16_2,  ↓reduceIte, Bool.false_eq_true, reduceCtorEq, i10, i20, i30, i40]; done) | simp [mkA, mcMarks, bI, c5_1, c16_2, ]))] at hI
      exact end_rwi hx hb hr (by first | (simp only [mkA, mcMarks, bI, c5_1, c16_2,  ↓reduceIte, Bool.false_eq_true, reduceCtorEq, i10, i20, i30, i40]; done) | simp [mkA, mcMarks, bI, c5_1, c16_2, ]) hI hS dX4_marks_31 hlk

set_option maxHeartbeats 4000000 in
set_option maxRecDepth 100000 in
theorem c_X4_recall (l : Launch) (D : va_G) (cy : Nat → ClassId) (h0 : Nat) (q : Nat → Nat) (A : Nat → Nat → Int32) (S : Nat → Int32) (b : Int32) (nb : Nat) (hnb : nb ≤ 24) (hcb : S 1 = nI nb) : Met l yX4_recall wsX4_recall (rmO 4 67) (va_Pc [.ref (q 0), .int b] (pI D cy h0 (wM cy q A S))) (rwI (if mcMarks A b 1 nb = 0 then btF (rmF A nb ^^^ rmF (mkA A b 1) nb) 24 else 0) D cy h0 (wM cy q (if mcMarks A b 1 nb = 0 then mkA A b 1 else A) (uS S 5 (mcMarks A b 1 nb))) (qA 18 q)) 0 0 (qA 18 q) := by
  refine Met.ofW (cc := cX4_recall) (maxL := 2) (ret := (some .int)) (by decide) rfl ?_
  intro p e s m args below meth c s₁ B hml hv
  obtain ⟨rfl, hI⟩ := hv
  have hx := B.exec
  have hb := B.bytes
  have hr := B.returns
  have hts := atoms_spec (ws := wsX4_recall) B.pre
  have hown : s.vm.findClass RX4 = some m.cls := findClass_of_methodNamed B.named
  have hlk := B.notSynchronized
  have hI : IH D cy h0 (wM cy q A S) s s.heap := hI
  have hG := hI.1
  have hqA := hA_M hI
  have hh0 : h0 ≤ s.heap.size := hI.1.2.2.2
  have hS : va_S nof s.heap s.heap [] := va_S.rf
  have hi4 : ∀ w ∈ wsX40, w ∈ wsX4_recall := by decide +kernel
  have hl := lv_entry ([.ref (q 0), .int b]) (n := 2) (Nat.le_of_ble_eq_true rfl)
  rw [lg_entry_eq]
  generalize (lg_sl ([.ref (q 0), .int b]) ++ List.replicate (2 - (lg_sl ([.ref (q 0), .int b])).length) Slot.unset).toArray = ls at hl ⊢
  have hl : lv_has ls 2 [(0, .ref (q 0)), (1, .int b)] := hl
  refine lv_aload_n hx hb dX4_recall_0 rfl (lv_at hl 0 rfl) ?_
  refine lv_iload_n hx hb dX4_recall_1 rfl (lv_at hl 1 rfl) ?_
  refine lv_iconst (v := 1) hx hb dX4_recall_2 (by decide) ?_
  have hS := hS.mono (B := qA 18 q) (fun _ h => h.elim)
  refine rw_i (w' := wM cy q (if mcMarks A b 1 nb = 0 then mkA A b 1 else A) (uS S 5 (mcMarks A b 1 nb))) (va_runV (As := [.int b, .int 1]) (rest := []) ⟨hx, hb, hml, hown, hts⟩ (c_X4_marks l D cy h0 q A S b 1 nb hnb hcb rfl) (cwV 2 hts gX4_recall_X4_marks rfl rfl rfl (by decide +kernel) ⟨Nat.le_of_ble_eq_true rfl, Nat.le_of_ble_eq_true rfl⟩) (hI.preV (k0 := 0) rfl rfl) rfl rfl hl.1 rfl (lv_room (Nat.le_of_ble_eq_true rfl)) dX4_recall_3 ⟨Nat.le_of_ble_eq_true rfl, Nat.le_of_ble_eq_true rfl⟩) hI hS (fun _ h => h) hqA (fun H locs hI hS => ?_)
  exact end_rwi hx hb hr rfl hI hS dX4_recall_6 hlk

set_option maxHeartbeats 4000000 in
set_option maxRecDepth 100000 in
theorem c_X4_lift (l : Launch) (D : va_G) (cy : Nat → ClassId) (h0 : Nat) (q : Nat → Nat) (A : Nat → Nat → Int32) (S : Nat → Int32) (b : Int32) (nb : Nat) (hnb : nb ≤ 24) (hcb : S 1 = nI nb) : Met l yX4_lift wsX4_lift (rmO 4 67) (va_Pc [.ref (q 0), .int b] (pI D cy h0 (wM cy q A S))) (rwI (if mcMarks A b 0 nb = 0 then btF (rmF A nb ^^^ rmF (mkA A b 0) nb) 24 else 0) D cy h0 (wM cy q (if mcMarks A b 0 nb = 0 then mkA A b 0 else A) (uS S 5 (mcMarks A b 0 nb))) (qA 18 q)) 0 0 (qA 18 q) := by
  refine Met.ofW (cc := cX4_lift) (maxL := 2) (ret := (some .int)) (by decide) rfl ?_
  intro p e s m args below meth c s₁ B hml hv
  obtain ⟨rfl, hI⟩ := hv
  have hx := B.exec
  have hb := B.bytes
  have hr := B.returns
  have hts := atoms_spec (ws := wsX4_lift) B.pre
  have hown : s.vm.findClass RX4 = some m.cls := findClass_of_methodNamed B.named
  have hlk := B.notSynchronized
  have hI : IH D cy h0 (wM cy q A S) s s.heap := hI
  have hG := hI.1
  have hqA := hA_M hI
  have hh0 : h0 ≤ s.heap.size := hI.1.2.2.2
  have hS : va_S nof s.heap s.heap [] := va_S.rf
  have hi4 : ∀ w ∈ wsX40, w ∈ wsX4_lift := by decide +kernel
  have hl := lv_entry ([.ref (q 0), .int b]) (n := 2) (Nat.le_of_ble_eq_true rfl)
  rw [lg_entry_eq]
  generalize (lg_sl ([.ref (q 0), .int b]) ++ List.replicate (2 - (lg_sl ([.ref (q 0), .int b])).length) Slot.unset).toArray = ls at hl ⊢
  have hl : lv_has ls 2 [(0, .ref (q 0)), (1, .int b)] := hl
  refine lv_aload_n hx hb dX4_lift_0 rfl (lv_at hl 0 rfl) ?_
  refine lv_iload_n hx hb dX4_lift_1 rfl (lv_at hl 1 rfl) ?_
  refine lv_iconst (v := 0) hx hb dX4_lift_2 (by decide) ?_
  have hS := hS.mono (B := qA 18 q) (fun _ h => h.elim)
  refine rw_i (w' := wM cy q (if mcMarks A b 0 nb = 0 then mkA A b 0 else A) (uS S 5 (mcMarks A b 0 nb))) (va_runV (As := [.int b, .int 0]) (rest := []) ⟨hx, hb, hml, hown, hts⟩ (c_X4_marks l D cy h0 q A S b 0 nb hnb hcb rfl) (cwV 2 hts gX4_lift_X4_marks rfl rfl rfl (by decide +kernel) ⟨Nat.le_of_ble_eq_true rfl, Nat.le_of_ble_eq_true rfl⟩) (hI.preV (k0 := 0) rfl rfl) rfl rfl hl.1 rfl (lv_room (Nat.le_of_ble_eq_true rfl)) dX4_lift_3 ⟨Nat.le_of_ble_eq_true rfl, Nat.le_of_ble_eq_true rfl⟩) hI hS (fun _ h => h) hqA (fun H locs hI hS => ?_)
  exact end_rwi hx hb hr rfl hI hS dX4_lift_6 hlk

set_option maxHeartbeats 4000000 in
set_option maxRecDepth 100000 in
theorem c_X4_isRecalled (l : Launch) (D : va_G) (cy : Nat → ClassId) (h0 : Nat) (q : Nat → Nat) (A : Nat → Nat → Int32) (S : Nat → Int32) (b : Int32) (nb : Nat) (hnb : nb ≤ 24) (hcb : S 1 = nI nb) : Met l yX4_isRecalled wsX4_isRecalled (rmO 3 43) (va_Pc [.ref (q 0), .int b] (pI D cy h0 (wM cy q A S))) (rwI (bI (!noR b nb && gnB A (ix b))) D cy h0 (wM cy q A (uS S 5 (mcR b nb))) (qA 18 q)) 0 0 (qA 18 q) := by
  refine Met.ofW (cc := cX4_isRecalled) (maxL := 2) (ret := (some .boolean)) (by decide) rfl ?_
  intro p e s m args below meth c s₁ B hml hv
  obtain ⟨rfl, hI⟩ := hv
  have hx := B.exec
  have hb := B.bytes
  have hr := B.returns
  have hts := atoms_spec (ws := wsX4_isRecalled) B.pre
  have hown : s.vm.findClass RX4 = some m.cls := findClass_of_methodNamed B.named
  have hlk := B.notSynchronized
  have hI : IH D cy h0 (wM cy q A S) s s.heap := hI
  have hG := hI.1
  have hqA := hA_M hI
  have hh0 : h0 ≤ s.heap.size := hI.1.2.2.2
  have hS : va_S nof s.heap s.heap [] := va_S.rf
  have hi4 : ∀ w ∈ wsX40, w ∈ wsX4_isRecalled := by decide +kernel
  have hl := lv_entry ([.ref (q 0), .int b]) (n := 2) (Nat.le_of_ble_eq_true rfl)
  rw [lg_entry_eq]
  generalize (lg_sl ([.ref (q 0), .int b]) ++ List.replicate (2 - (lg_sl ([.ref (q 0), .int b])).length) Slot.unset).toArray = ls at hl ⊢
  have hl : lv_has ls 2 [(0, .ref (q 0)), (1, .int b)] := hl
  refine lv_aload_n hx hb dX4_isRecalled_0 rfl (lv_at hl 0 rfl) ?_
  refine lv_iload_n hx hb dX4_isRecalled_1 rfl (lv_at hl 1 rfl) ?_
  have hS := hS.mono (B := qA 18 q) (fun _ h => h.elim)
  refine rw_i (w' := wM cy q A (uS S 5 (bI (noR b nb)))) (va_runV (As := [.int b]) (rest := []) ⟨hx, hb, hml, hown, hts⟩ (c_X4_isNoBuild l D cy h0 q A S b nb hnb hcb) (cwV 1 hts gX4_isRecalled_X4_isNoBuild rfl rfl rfl (by decide +kernel) ⟨Nat.le_of_ble_eq_true rfl, Nat.le_of_ble_eq_true rfl⟩) (hI.preV (k0 := 0) rfl rfl) rfl rfl hl.1 rfl (lv_room (Nat.le_of_ble_eq_true rfl)) dX4_isRecalled_2 ⟨Nat.le_of_ble_eq_true rfl, Nat.le_of_ble_eq_true rfl⟩) hI hS (fun _ h => h) hqA (fun H locs hI hS => ?_)
  refine r_ifne_b (tgt := 20) hx hb dX4_isRecalled_5 (by decide) (fun c5_1 => ?_) (fun c5_1 => ?_)
  · refine lv_iconst (v := 0) hx hb dX4_isRecalled_20 (by decide) ?_
    rw [show wM cy q A (uS S 5 (bI (noR b nb))) = wM cy q A (uS S 5 (mcR b nb)) from (wM_A (by first | rfl | (simp only [bI, mcR, c5_1,  ↓reduceIte, Bool.false_eq_true, reduceCtorEq, i10, i20, i30, i40]; done) | simp [bI, mcR, c5_1, ]) (by first | rfl | (simp only [bI, mcR, c5_1,  ↓reduceIte, Bool.false_eq_true, reduceCtorEq, i10, i20, i30, i40]; done) | simp [bI, mcR, c5_1, ]))] at hI
    exact end_rwz hx hb hr rfl (by first | (simp only [bI, mcR, c5_1,  ↓reduceIte, Bool.false_eq_true, reduceCtorEq, i10, i20, i30, i40]; done) | simp [bI, mcR, c5_1, ]) hI hS dX4_isRecalled_21 hlk
  · obtain ⟨hj_b, hk_b⟩ := noR_c (by omega) c5_1
    refine lv_aload_n hx hb dX4_isRecalled_8 rfl (lv_at hl 0 rfl) ?_
    refine lv_iload_n hx hb dX4_isRecalled_9 rfl (lv_at hl 1 rfl) ?_
    refine ro_i (va_runV (As := [.int b]) (rest := []) ⟨hx, hb, hml, hown, hts⟩ (c_X4_isGone l D cy h0 q A (uS S 5 (bI (noR b nb))) b (ix b) (by omega) hk_b) (cwV 1 hts gX4_isRecalled_X4_isGone rfl rfl rfl (by decide +kernel) ⟨Nat.le_of_ble_eq_true rfl, Nat.le_of_ble_eq_true rfl⟩) (hI.preV (k0 := 0) rfl rfl) rfl rfl hl.1 rfl (lv_room (Nat.le_of_ble_eq_true rfl)) dX4_isRecalled_10 ⟨Nat.le_of_ble_eq_true rfl, Nat.le_of_ble_eq_true rfl⟩) hI hS (fun H locs hI hS => ?_)
    refine r_ifeq_b (tgt := 20) hx hb dX4_isRecalled_13 (by decide) (fun c13_2 => ?_) (fun c13_2 => ?_)
    · refine lv_iconst (v := 0) hx hb dX4_isRecalled_20 (by decide) ?_
      rw [show wM cy q A (uS S 5 (bI (noR b nb))) = wM cy q A (uS S 5 (mcR b nb)) from (wM_A (by first | rfl | (simp only [bI, mcR, c5_1, c13_2,  ↓reduceIte, Bool.false_eq_true, reduceCtorEq, i10, i20, i30, i40]; done) | simp [bI, mcR, c5_1, c13_2, ]) (by first | rfl | (simp only [bI, mcR, c5_1, c13_2,  ↓reduceIte, Bool.false_eq_true, reduceCtorEq, i10, i20, i30, i40]; done) | simp [bI, mcR, c5_1, c13_2, ]))] at hI
      exact end_rwz hx hb hr rfl (by first | (simp only [bI, mcR, c5_1, c13_2,  ↓reduceIte, Bool.false_eq_true, reduceCtorEq, i10, i20, i30, i40]; done) | simp [bI, mcR, c5_1, c13_2, ]) hI hS dX4_isRecalled_21 hlk
    · refine lv_iconst (v := 1) hx hb dX4_isRecalled_16 (by decide) ?_
      refine lv_goto (tgt := 21) hx hb dX4_isRecalled_17 (by decide) ?_
      rw [show wM cy q A (uS S 5 (bI (noR b nb))) = wM cy q A (uS S 5 (mcR b nb)) from (wM_A (by first | rfl | (simp only [bI, mcR, c5_1, c13_2,  ↓reduceIte, Bool.false_eq_true, reduceCtorEq, i10, i20, i30, i40]; done) | simp [bI, mcR, c5_1, c13_2, ]) (by first | rfl | (simp only [bI, mcR, c5_1, c13_2,  ↓reduceIte, Bool.false_eq_true, reduceCtorEq, i10, i20, i30, i40]; done) | simp [bI, mcR, c5_1, c13_2, ]))] at hI
      exact end_rwz hx hb hr rfl (by first | (simp only [bI, mcR, c5_1, c13_2,  ↓reduceIte, Bool.false_eq_true, reduceCtorEq, i10, i20, i30, i40]; done) | simp [bI, mcR, c5_1, c13_2, ]) hI hS dX4_isRecalled_21 hlk

set_option maxHeartbeats 4000000 in
set_option maxRecDepth 100000 in
theorem c_X4_rebuild (l : Launch) (D : va_G) (cy : Nat → ClassId) (h0 : Nat) (q : Nat → Nat) (A : Nat → Nat → Int32) (S : Nat → Int32) (b : Int32) (r : Int32) (nb : Nat) (hnb : nb ≤ 24) (hcb : S 1 = nI nb) : Met l yX4_rebuild wsX4_rebuild (rmO 3 43) (va_Pc [.ref (q 0), .int b, .int r] (pI D cy h0 (wM cy q A S))) (rwI (if mcRebuild A b nb = 0 then bI (decide (A 9 (ix b) = r)) else 0) D cy h0 (wM cy q (if mcRebuild A b nb = 0 then mrbA A b r else A) (uS S 5 (mcRebuild A b nb))) (qA 18 q)) 0 0 (qA 18 q) := by
  refine Met.ofW (cc := cX4_rebuild) (maxL := 3) (ret := (some .boolean)) (by decide) rfl ?_
  intro p e s m args below meth c s₁ B hml hv
  obtain ⟨rfl, hI⟩ := hv
  have hx := B.exec
  have hb := B.bytes
  have hr := B.returns
  have hts := atoms_spec (ws := wsX4_rebuild) B.pre
  have hown : s.vm.findClass RX4 = some m.cls := findClass_of_methodNamed B.named
  have hlk := B.notSynchronized
  have hI : IH D cy h0 (wM cy q A S) s s.heap := hI
  have hG := hI.1
  have hqA := hA_M hI
  have hh0 : h0 ≤ s.heap.size := hI.1.2.2.2
  have hS : va_S nof s.heap s.heap [] := va_S.rf
  have hi4 : ∀ w ∈ wsX40, w ∈ wsX4_rebuild := by decide +kernel
  have hl := lv_entry ([.ref (q 0), .int b, .int r]) (n := 3) (Nat.le_of_ble_eq_true rfl)
  rw [lg_entry_eq]
  generalize (lg_sl ([.ref (q 0), .int b, .int r]) ++ List.replicate (3 - (lg_sl ([.ref (q 0), .int b, .int r])).length) Slot.unset).toArray = ls at hl ⊢
  have hl : lv_has ls 3 [(0, .ref (q 0)), (1, .int b), (2, .int r)] := hl
  refine lv_aload_n hx hb dX4_rebuild_0 rfl (lv_at hl 0 rfl) ?_
  refine lv_iload_n hx hb dX4_rebuild_1 rfl (lv_at hl 1 rfl) ?_
  have hS := hS.mono (B := qA 18 q) (fun _ h => h.elim)
  refine rw_i (w' := wM cy q A (uS S 5 (bI (noR b nb)))) (va_runV (As := [.int b]) (rest := []) ⟨hx, hb, hml, hown, hts⟩ (c_X4_isNoBuild l D cy h0 q A S b nb hnb hcb) (cwV 1 hts gX4_rebuild_X4_isNoBuild rfl rfl rfl (by decide +kernel) ⟨Nat.le_of_ble_eq_true rfl, Nat.le_of_ble_eq_true rfl⟩) (hI.preV (k0 := 0) rfl rfl) rfl rfl hl.1 rfl (lv_room (Nat.le_of_ble_eq_true rfl)) dX4_rebuild_2 ⟨Nat.le_of_ble_eq_true rfl, Nat.le_of_ble_eq_true rfl⟩) hI hS (fun _ h => h) hqA (fun H locs hI hS => ?_)
  refine r_ifne_b (tgt := 31) hx hb dX4_rebuild_5 (by decide) (fun c5_1 => ?_) (fun c5_1 => ?_)
  · refine lv_iconst (v := 0) hx hb dX4_rebuild_31 (by decide) ?_
    rw [show wM cy q A (uS S 5 (bI (noR b nb))) = wM cy q (if mcRebuild A b nb = 0 then mrbA A b r else A) (uS S 5 (mcRebuild A b nb)) from (wM_A (by first | rfl | (simp only [bI, mrbA, mcRebuild, c5_1,  ↓reduceIte, Bool.false_eq_true, reduceCtorEq, i10, i20, i30, i40]; done) | simp [bI, mrbA, mcRebuild, c5_1, ]) (by first | rfl | (simp only [bI, mrbA, mcRebuild, c5_1,  ↓reduceIte, Bool.false_eq_true, reduceCtorEq, i10, i20, i30, i40]; done) | simp [bI, mrbA, mcRebuild, c5_1, ]))] at hI
    exact end_rwz hx hb hr rfl (by first | (simp only [bI, mrbA, mcRebuild, c5_1,  ↓reduceIte, Bool.false_eq_true, reduceCtorEq, i10, i20, i30, i40]; done) | simp [bI, mrbA, mcRebuild, c5_1, ]) hI hS dX4_rebuild_32 hlk
  · obtain ⟨hj_b, hk_b⟩ := noR_c (by omega) c5_1
    refine lv_aload_n hx hb dX4_rebuild_8 rfl (lv_at hl 0 rfl) ?_
    refine lv_aload_n hx hb dX4_rebuild_9 rfl (lv_at hl 0 rfl) ?_
    refine r_get (C := RX4) (T := TX4) (N := 23) (k := 14) (q0 := 0) (v := .ref (q 13)) hx hb hts hi4 hown hI rfl rfl (by decide) (hts (.fieldLink RX4 47 "BuildlotsModel" "told" "[I") (List.mem_of_getElem? (i := 1) rfl)) rfl rfl dX4_rebuild_10 ?_
    refine lv_iload_n hx hb dX4_rebuild_13 rfl (lv_at hl 1 rfl) ?_
    refine r_iald (q0 := 13) (j := (ix b)) (n := 24) (f := (A 12)) hx hb hI rfl hk_b (by omega) (by decide) dX4_rebuild_14 ?_
    refine lv_bipush (v := 99) hx hb dX4_rebuild_15 (by decide) ?_
    refine lv_icmp_ne (tgt := 24) hx hb dX4_rebuild_17 (by decide) (fun c17_2 => ?_) (fun c17_2 => ?_)
    · refine lv_iconst (v := 0) hx hb dX4_rebuild_24 (by decide) ?_
      refine rw_i (w' := wM cy q A (uS (uS S 5 (bI (noR b nb))) 5 0)) (va_runV (As := [.int 0]) (rest := []) ⟨hx, hb, hml, hown, hts⟩ (c_X4_fails l D cy h0 q A (uS S 5 (bI (noR b nb))) 0) (cwV 1 hts gX4_rebuild_X4_fails rfl rfl rfl (by decide +kernel) ⟨Nat.le_of_ble_eq_true rfl, Nat.le_of_ble_eq_true rfl⟩) (hI.preV (k0 := 0) rfl rfl) rfl rfl hl.1 rfl (lv_room (Nat.le_of_ble_eq_true rfl)) dX4_rebuild_25 ⟨Nat.le_of_ble_eq_true rfl, Nat.le_of_ble_eq_true rfl⟩) hI hS (fun _ h => h) hqA (fun H locs hI hS => ?_)
      rw [uS_uS] at hI
      rw [show (bI (failsB 0)) = 0 from (by decide)]
      refine lv_if_eq (tgt := 33) hx hb dX4_rebuild_28 (by decide) (fun c28_3 => ?_) (fun c28_3 => ?_)
      rotate_left
      · exact absurd c28_3 (by decide)
      refine lv_aload_n hx hb dX4_rebuild_33 rfl (lv_at hl 0 rfl) ?_
      refine r_get (C := RX4) (T := TX4) (N := 23) (k := 14) (q0 := 0) (v := .ref (q 13)) hx hb hts hi4 hown hI rfl rfl (by decide) (hts (.fieldLink RX4 47 "BuildlotsModel" "told" "[I") (List.mem_of_getElem? (i := 1) rfl)) rfl rfl dX4_rebuild_34 ?_
      refine lv_iload_n hx hb dX4_rebuild_37 rfl (lv_at hl 1 rfl) ?_
      refine lv_dup2_11 hx hb dX4_rebuild_38 rfl rfl ?_
      refine r_iald (q0 := 13) (j := (ix b)) (n := 24) (f := (A 12)) hx hb hI rfl hk_b (by omega) (by decide) dX4_rebuild_39 ?_
      refine lv_iconst (v := 1) hx hb dX4_rebuild_40 (by decide) ?_
      refine lv_iadd hx hb dX4_rebuild_41 ?_
      refine r_iast (w' := wM cy q (uA A 12 (upd (A 12) (ix b) ((A 12 (ix b)) + 1))) (uS S 5 0)) (q0 := 13) (j := (ix b)) (n := 24) (f := (A 12)) hx hb hI hS hqA hh0 (qA_M hI) rfl hk_b (by omega) (by decide) dX4_rebuild_42 rfl (fun H locs hI hS => ?_)
      refine lv_aload_n hx hb dX4_rebuild_43 rfl (lv_at hl 0 rfl) ?_
      refine r_get (C := RX4) (T := TX4) (N := 23) (k := 15) (q0 := 0) (v := .ref (q 14)) hx hb hts hi4 hown hI rfl rfl (by decide) (hts (.fieldLink RX4 50 "BuildlotsModel" "right" "[I") (List.mem_of_getElem? (i := 2) rfl)) rfl rfl dX4_rebuild_44 ?_
      refine lv_iload_n hx hb dX4_rebuild_47 rfl (lv_at hl 1 rfl) ?_
      refine lv_dup2_11 hx hb dX4_rebuild_48 rfl rfl ?_
      refine r_iald (q0 := 14) (j := (ix b)) (n := 24) (f := (A 13)) hx hb hI rfl hk_b (by omega) (by decide) dX4_rebuild_49 ?_
      refine lv_aload_n hx hb dX4_rebuild_50 rfl (lv_at hl 0 rfl) ?_
      refine r_get (C := RX4) (T := TX4) (N := 23) (k := 11) (q0 := 0) (v := .ref (q 10)) hx hb hts hi4 hown hI rfl rfl (by decide) (hts (.fieldLink RX4 38 "BuildlotsModel" "results" "[I") (List.mem_of_getElem? (i := 3) rfl)) rfl rfl dX4_rebuild_51 ?_
      refine lv_iload_n hx hb dX4_rebuild_54 rfl (lv_at hl 1 rfl) ?_
      refine r_iald (q0 := 10) (j := (ix b)) (n := 24) (f := (A 9)) hx hb hI rfl hk_b (by omega) (by decide) dX4_rebuild_55 ?_
      refine lv_iload_n hx hb dX4_rebuild_56 rfl (lv_at hl 2 rfl) ?_
      refine lv_icmp_ne (tgt := 64) hx hb dX4_rebuild_57 (by decide) (fun c57_4 => ?_) (fun c57_4 => ?_)
      · refine lv_iconst (v := 0) hx hb dX4_rebuild_64 (by decide) ?_
        refine lv_iadd hx hb dX4_rebuild_65 ?_
        refine r_iast (w' := wM cy q (uA (uA A 12 (upd (A 12) (ix b) ((A 12 (ix b)) + 1))) 13 (upd (A 13) (ix b) ((A 13 (ix b)) + 0))) (uS S 5 0)) (q0 := 14) (j := (ix b)) (n := 24) (f := (A 13)) hx hb hI hS hqA hh0 (qA_M hI) rfl hk_b (by omega) (by decide) dX4_rebuild_66 rfl (fun H locs hI hS => ?_)
        refine lv_aload_n hx hb dX4_rebuild_67 rfl (lv_at hl 0 rfl) ?_
        refine r_get (C := RX4) (T := TX4) (N := 23) (k := 11) (q0 := 0) (v := .ref (q 10)) hx hb hts hi4 hown hI rfl rfl (by decide) (hts (.fieldLink RX4 38 "BuildlotsModel" "results" "[I") (List.mem_of_getElem? (i := 3) rfl)) rfl rfl dX4_rebuild_68 ?_
        refine lv_iload_n hx hb dX4_rebuild_71 rfl (lv_at hl 1 rfl) ?_
        refine r_iald (q0 := 10) (j := (ix b)) (n := 24) (f := (A 9)) hx hb hI rfl hk_b (by omega) (by decide) dX4_rebuild_72 ?_
        refine lv_iload_n hx hb dX4_rebuild_73 rfl (lv_at hl 2 rfl) ?_
        refine lv_icmp_ne (tgt := 81) hx hb dX4_rebuild_74 (by decide) (fun c74_5 => ?_) (fun c74_5 => ?_)
        rotate_left
        · exact absurd c74_5 c57_4
        refine lv_iconst (v := 0) hx hb dX4_rebuild_81 (by decide) ?_
        rw [show wM cy q (uA (uA A 12 (upd (A 12) (ix b) ((A 12 (ix b)) + 1))) 13 (upd (A 13) (ix b) ((A 13 (ix b)) + 0))) (uS S 5 0) = wM cy q (if mcRebuild A b nb = 0 then mrbA A b r else A) (uS S 5 (mcRebuild A b nb)) from (wM_A (by first | rfl | (simp only [bI, mrbA, mcRebuild, c5_1, c17_2, c57_4, c74_5,  ↓reduceIte, Bool.false_eq_true, reduceCtorEq, i10, i20, i30, i40]; done) | simp [bI, mrbA, mcRebuild, c5_1, c17_2, c57_4, c74_5, ]) (by first | rfl | (simp only [bI, mrbA, mcRebuild, c5_1, c17_2, c57_4, c74_5,  ↓reduceIte, Bool.false_eq_true, reduceCtorEq, i10, i20, i30, i40]; done) | simp [bI, mrbA, mcRebuild, c5_1, c17_2, c57_4, c74_5, ]))] at hI
        exact end_rwz hx hb hr rfl (by first | (simp only [bI, mrbA, mcRebuild, c5_1, c17_2, c57_4, c74_5,  ↓reduceIte, Bool.false_eq_true, reduceCtorEq, i10, i20, i30, i40]; done) | simp [bI, mrbA, mcRebuild, c5_1, c17_2, c57_4, c74_5, ]) hI hS dX4_rebuild_82 hlk
      · refine lv_iconst (v := 1) hx hb dX4_rebuild_60 (by decide) ?_
        refine lv_goto (tgt := 65) hx hb dX4_rebuild_61 (by decide) ?_
        refine lv_iadd hx hb dX4_rebuild_65 ?_
        refine r_iast (w' := wM cy q (uA (uA A 12 (upd (A 12) (ix b) ((A 12 (ix b)) + 1))) 13 (upd (A 13) (ix b) ((A 13 (ix b)) + 1))) (uS S 5 0)) (q0 := 14) (j := (ix b)) (n := 24) (f := (A 13)) hx hb hI hS hqA hh0 (qA_M hI) rfl hk_b (by omega) (by decide) dX4_rebuild_66 rfl (fun H locs hI hS => ?_)
        refine lv_aload_n hx hb dX4_rebuild_67 rfl (lv_at hl 0 rfl) ?_
        refine r_get (C := RX4) (T := TX4) (N := 23) (k := 11) (q0 := 0) (v := .ref (q 10)) hx hb hts hi4 hown hI rfl rfl (by decide) (hts (.fieldLink RX4 38 "BuildlotsModel" "results" "[I") (List.mem_of_getElem? (i := 3) rfl)) rfl rfl dX4_rebuild_68 ?_
        refine lv_iload_n hx hb dX4_rebuild_71 rfl (lv_at hl 1 rfl) ?_
        refine r_iald (q0 := 10) (j := (ix b)) (n := 24) (f := (A 9)) hx hb hI rfl hk_b (by omega) (by decide) dX4_rebuild_72 ?_
        refine lv_iload_n hx hb dX4_rebuild_73 rfl (lv_at hl 2 rfl) ?_
        refine lv_icmp_ne (tgt := 81) hx hb dX4_rebuild_74 (by decide) (fun c74_6 => ?_) (fun c74_6 => ?_)
        · exact absurd c57_4 c74_6
        refine lv_iconst (v := 1) hx hb dX4_rebuild_77 (by decide) ?_
        refine lv_goto (tgt := 82) hx hb dX4_rebuild_78 (by decide) ?_
        rw [show wM cy q (uA (uA A 12 (upd (A 12) (ix b) ((A 12 (ix b)) + 1))) 13 (upd (A 13) (ix b) ((A 13 (ix b)) + 1))) (uS S 5 0) = wM cy q (if mcRebuild A b nb = 0 then mrbA A b r else A) (uS S 5 (mcRebuild A b nb)) from (wM_A (by first | rfl | (simp only [bI, mrbA, mcRebuild, c5_1, c17_2, c57_4, c74_6,  ↓reduceIte, Bool.false_eq_true, reduceCtorEq, i10, i20, i30, i40]; done) | simp [bI, mrbA, mcRebuild, c5_1, c17_2, c57_4, c74_6, ]) (by first | rfl | (simp only [bI, mrbA, mcRebuild, c5_1, c17_2, c57_4, c74_6,  ↓reduceIte, Bool.false_eq_true, reduceCtorEq, i10, i20, i30, i40]; done) | simp [bI, mrbA, mcRebuild, c5_1, c17_2, c57_4, c74_6, ]))] at hI
        exact end_rwz hx hb hr rfl (by first | (simp only [bI, mrbA, mcRebuild, c5_1, c17_2, c57_4, c74_6,  ↓reduceIte, Bool.false_eq_true, reduceCtorEq, i10, i20, i30, i40]; done) | simp [bI, mrbA, mcRebuild, c5_1, c17_2, c57_4, c74_6, ]) hI hS dX4_rebuild_82 hlk
    · refine lv_iconst (v := 2) hx hb dX4_rebuild_20 (by decide) ?_
      refine lv_goto (tgt := 25) hx hb dX4_rebuild_21 (by decide) ?_
      refine rw_i (w' := wM cy q A (uS (uS S 5 (bI (noR b nb))) 5 2)) (va_runV (As := [.int 2]) (rest := []) ⟨hx, hb, hml, hown, hts⟩ (c_X4_fails l D cy h0 q A (uS S 5 (bI (noR b nb))) 2) (cwV 1 hts gX4_rebuild_X4_fails rfl rfl rfl (by decide +kernel) ⟨Nat.le_of_ble_eq_true rfl, Nat.le_of_ble_eq_true rfl⟩) (hI.preV (k0 := 0) rfl rfl) rfl rfl hl.1 rfl (lv_room (Nat.le_of_ble_eq_true rfl)) dX4_rebuild_25 ⟨Nat.le_of_ble_eq_true rfl, Nat.le_of_ble_eq_true rfl⟩) hI hS (fun _ h => h) hqA (fun H locs hI hS => ?_)
      rw [uS_uS] at hI
      rw [show (bI (failsB 2)) = 1 from (by decide)]
      refine lv_if_eq (tgt := 33) hx hb dX4_rebuild_28 (by decide) (fun c28_7 => ?_) (fun c28_7 => ?_)
      · exact absurd c28_7 (by decide)
      refine lv_iconst (v := 0) hx hb dX4_rebuild_31 (by decide) ?_
      rw [show wM cy q A (uS S 5 2) = wM cy q (if mcRebuild A b nb = 0 then mrbA A b r else A) (uS S 5 (mcRebuild A b nb)) from (wM_A (by first | rfl | (simp only [bI, mrbA, mcRebuild, c5_1, c17_2,  ↓reduceIte, Bool.false_eq_true, reduceCtorEq, i10, i20, i30, i40]; done) | simp [bI, mrbA, mcRebuild, c5_1, c17_2, ]) (by first | rfl | (simp only [bI, mrbA, mcRebuild, c5_1, c17_2,  ↓reduceIte, Bool.false_eq_true, reduceCtorEq, i10, i20, i30, i40]; done) | simp [bI, mrbA, mcRebuild, c5_1, c17_2, ]))] at hI
      exact end_rwz hx hb hr rfl (by first | (simp only [bI, mrbA, mcRebuild, c5_1, c17_2,  ↓reduceIte, Bool.false_eq_true, reduceCtorEq, i10, i20, i30, i40]; done) | simp [bI, mrbA, mcRebuild, c5_1, c17_2, ]) hI hS dX4_rebuild_32 hlk

set_option maxHeartbeats 4000000 in
set_option maxRecDepth 100000 in
theorem c_X4_share (l : Launch) (D : va_G) (cy : Nat → ClassId) (h0 : Nat) (q : Nat → Nat) (A : Nat → Nat → Int32) (S : Nat → Int32) (b : Int32) (nb : Nat) (hnb : nb ≤ 24) (hcb : S 1 = nI nb) : Met l yX4_share wsX4_share (rmO 3 43) (va_Pc [.ref (q 0), .int b] (pI D cy h0 (wM cy q A S))) (rwF (if mcShare A b nb = 0 then FP.fdiv (FP.i2f (A 13 (ix b))) (FP.i2f (A 12 (ix b))) else FP.fconst0) D cy h0 (wM cy q A (uS S 5 (mcShare A b nb))) (qA 18 q)) 0 0 (qA 18 q) := by
  refine Met.ofW (cc := cX4_share) (maxL := 2) (ret := (some .float)) (by decide) rfl ?_
  intro p e s m args below meth c s₁ B hml hv
  obtain ⟨rfl, hI⟩ := hv
  have hx := B.exec
  have hb := B.bytes
  have hr := B.returns
  have hts := atoms_spec (ws := wsX4_share) B.pre
  have hown : s.vm.findClass RX4 = some m.cls := findClass_of_methodNamed B.named
  have hlk := B.notSynchronized
  have hI : IH D cy h0 (wM cy q A S) s s.heap := hI
  have hG := hI.1
  have hqA := hA_M hI
  have hh0 : h0 ≤ s.heap.size := hI.1.2.2.2
  have hS : va_S nof s.heap s.heap [] := va_S.rf
  have hi4 : ∀ w ∈ wsX40, w ∈ wsX4_share := by decide +kernel
  have hl := lv_entry ([.ref (q 0), .int b]) (n := 2) (Nat.le_of_ble_eq_true rfl)
  rw [lg_entry_eq]
  generalize (lg_sl ([.ref (q 0), .int b]) ++ List.replicate (2 - (lg_sl ([.ref (q 0), .int b])).length) Slot.unset).toArray = ls at hl ⊢
  have hl : lv_has ls 2 [(0, .ref (q 0)), (1, .int b)] := hl
  refine lv_aload_n hx hb dX4_share_0 rfl (lv_at hl 0 rfl) ?_
  refine lv_iload_n hx hb dX4_share_1 rfl (lv_at hl 1 rfl) ?_
  have hS := hS.mono (B := qA 18 q) (fun _ h => h.elim)
  refine rw_i (w' := wM cy q A (uS S 5 (bI (noR b nb)))) (va_runV (As := [.int b]) (rest := []) ⟨hx, hb, hml, hown, hts⟩ (c_X4_isNoBuild l D cy h0 q A S b nb hnb hcb) (cwV 1 hts gX4_share_X4_isNoBuild rfl rfl rfl (by decide +kernel) ⟨Nat.le_of_ble_eq_true rfl, Nat.le_of_ble_eq_true rfl⟩) (hI.preV (k0 := 0) rfl rfl) rfl rfl hl.1 rfl (lv_room (Nat.le_of_ble_eq_true rfl)) dX4_share_2 ⟨Nat.le_of_ble_eq_true rfl, Nat.le_of_ble_eq_true rfl⟩) hI hS (fun _ h => h) hqA (fun H locs hI hS => ?_)
  refine r_ifne_b (tgt := 29) hx hb dX4_share_5 (by decide) (fun c5_1 => ?_) (fun c5_1 => ?_)
  · refine lv_fconst0 hx hb dX4_share_29 ?_
    refine lv_goto (tgt := 48) hx hb dX4_share_30 (by decide) ?_
    rw [show wM cy q A (uS S 5 (bI (noR b nb))) = wM cy q A (uS S 5 (mcShare A b nb)) from (wM_A (by first | rfl | (simp only [mcShare, bI, c5_1,  ↓reduceIte, Bool.false_eq_true, reduceCtorEq, i10, i20, i30, i40]; done) | simp [mcShare, bI, c5_1, ]) (by first | rfl | (simp only [mcShare, bI, c5_1,  ↓reduceIte, Bool.false_eq_true, reduceCtorEq, i10, i20, i30, i40]; done) | simp [mcShare, bI, c5_1, ]))] at hI
    exact end_rwf hx hb hr (by first | (simp only [mcShare, bI, c5_1,  ↓reduceIte, Bool.false_eq_true, reduceCtorEq, i10, i20, i30, i40]; done) | simp [mcShare, bI, c5_1, ]) hI hS dX4_share_48 hlk
  · obtain ⟨hj_b, hk_b⟩ := noR_c (by omega) c5_1
    refine lv_aload_n hx hb dX4_share_8 rfl (lv_at hl 0 rfl) ?_
    refine lv_aload_n hx hb dX4_share_9 rfl (lv_at hl 0 rfl) ?_
    refine r_get (C := RX4) (T := TX4) (N := 23) (k := 14) (q0 := 0) (v := .ref (q 13)) hx hb hts hi4 hown hI rfl rfl (by decide) (hts (.fieldLink RX4 47 "BuildlotsModel" "told" "[I") (List.mem_of_getElem? (i := 1) rfl)) rfl rfl dX4_share_10 ?_
    refine lv_iload_n hx hb dX4_share_13 rfl (lv_at hl 1 rfl) ?_
    refine r_iald (q0 := 13) (j := (ix b)) (n := 24) (f := (A 12)) hx hb hI rfl hk_b (by omega) (by decide) dX4_share_14 ?_
    refine lv_if_ne (tgt := 22) hx hb dX4_share_15 (by decide) (fun c15_2 => ?_) (fun c15_2 => ?_)
    · refine lv_iconst (v := 0) hx hb dX4_share_22 (by decide) ?_
      refine rw_i (w' := wM cy q A (uS (uS S 5 (bI (noR b nb))) 5 0)) (va_runV (As := [.int 0]) (rest := []) ⟨hx, hb, hml, hown, hts⟩ (c_X4_fails l D cy h0 q A (uS S 5 (bI (noR b nb))) 0) (cwV 1 hts gX4_share_X4_fails rfl rfl rfl (by decide +kernel) ⟨Nat.le_of_ble_eq_true rfl, Nat.le_of_ble_eq_true rfl⟩) (hI.preV (k0 := 0) rfl rfl) rfl rfl hl.1 rfl (lv_room (Nat.le_of_ble_eq_true rfl)) dX4_share_23 ⟨Nat.le_of_ble_eq_true rfl, Nat.le_of_ble_eq_true rfl⟩) hI hS (fun _ h => h) hqA (fun H locs hI hS => ?_)
      rw [uS_uS] at hI
      rw [show (bI (failsB 0)) = 0 from (by decide)]
      refine lv_if_eq (tgt := 33) hx hb dX4_share_26 (by decide) (fun c26_3 => ?_) (fun c26_3 => ?_)
      rotate_left
      · exact absurd c26_3 (by decide)
      refine lv_aload_n hx hb dX4_share_33 rfl (lv_at hl 0 rfl) ?_
      refine r_get (C := RX4) (T := TX4) (N := 23) (k := 15) (q0 := 0) (v := .ref (q 14)) hx hb hts hi4 hown hI rfl rfl (by decide) (hts (.fieldLink RX4 50 "BuildlotsModel" "right" "[I") (List.mem_of_getElem? (i := 2) rfl)) rfl rfl dX4_share_34 ?_
      refine lv_iload_n hx hb dX4_share_37 rfl (lv_at hl 1 rfl) ?_
      refine r_iald (q0 := 14) (j := (ix b)) (n := 24) (f := (A 13)) hx hb hI rfl hk_b (by omega) (by decide) dX4_share_38 ?_
      refine lv_i2f hx hb dX4_share_39 ?_
      refine lv_aload_n hx hb dX4_share_40 rfl (lv_at hl 0 rfl) ?_
      refine r_get (C := RX4) (T := TX4) (N := 23) (k := 14) (q0 := 0) (v := .ref (q 13)) hx hb hts hi4 hown hI rfl rfl (by decide) (hts (.fieldLink RX4 47 "BuildlotsModel" "told" "[I") (List.mem_of_getElem? (i := 1) rfl)) rfl rfl dX4_share_41 ?_
      refine lv_iload_n hx hb dX4_share_44 rfl (lv_at hl 1 rfl) ?_
      refine r_iald (q0 := 13) (j := (ix b)) (n := 24) (f := (A 12)) hx hb hI rfl hk_b (by omega) (by decide) dX4_share_45 ?_
      refine lv_i2f hx hb dX4_share_46 ?_
      refine lv_fdiv hx hb dX4_share_47 (nn_sh0 _ _ c15_2) ?_
      rw [show wM cy q A (uS S 5 0) = wM cy q A (uS S 5 (mcShare A b nb)) from (wM_A (by first | rfl | (simp only [mcShare, bI, c5_1, c15_2,  ↓reduceIte, Bool.false_eq_true, reduceCtorEq, i10, i20, i30, i40]; done) | simp [mcShare, bI, c5_1, c15_2, ]) (by first | rfl | (simp only [mcShare, bI, c5_1, c15_2,  ↓reduceIte, Bool.false_eq_true, reduceCtorEq, i10, i20, i30, i40]; done) | simp [mcShare, bI, c5_1, c15_2, ]))] at hI
      exact end_rwf hx hb hr (by first | (simp only [mcShare, bI, c5_1, c15_2,  ↓reduceIte, Bool.false_eq_true, reduceCtorEq, i10, i20, i30, i40]; done) | simp [mcShare, bI, c5_1, c15_2, ]) hI hS dX4_share_48 hlk
    · refine lv_iconst (v := 2) hx hb dX4_share_18 (by decide) ?_
      refine lv_goto (tgt := 23) hx hb dX4_share_19 (by decide) ?_
      refine rw_i (w' := wM cy q A (uS (uS S 5 (bI (noR b nb))) 5 2)) (va_runV (As := [.int 2]) (rest := []) ⟨hx, hb, hml, hown, hts⟩ (c_X4_fails l D cy h0 q A (uS S 5 (bI (noR b nb))) 2) (cwV 1 hts gX4_share_X4_fails rfl rfl rfl (by decide +kernel) ⟨Nat.le_of_ble_eq_true rfl, Nat.le_of_ble_eq_true rfl⟩) (hI.preV (k0 := 0) rfl rfl) rfl rfl hl.1 rfl (lv_room (Nat.le_of_ble_eq_true rfl)) dX4_share_23 ⟨Nat.le_of_ble_eq_true rfl, Nat.le_of_ble_eq_true rfl⟩) hI hS (fun _ h => h) hqA (fun H locs hI hS => ?_)
      rw [uS_uS] at hI
      rw [show (bI (failsB 2)) = 1 from (by decide)]
      refine lv_if_eq (tgt := 33) hx hb dX4_share_26 (by decide) (fun c26_4 => ?_) (fun c26_4 => ?_)
      · exact absurd c26_4 (by decide)
      refine lv_fconst0 hx hb dX4_share_29 ?_
      refine lv_goto (tgt := 48) hx hb dX4_share_30 (by decide) ?_
      rw [show wM cy q A (uS S 5 2) = wM cy q A (uS S 5 (mcShare A b nb)) from (wM_A (by first | rfl | (simp only [mcShare, bI, c5_1, c15_2,  ↓reduceIte, Bool.false_eq_true, reduceCtorEq, i10, i20, i30, i40]; done) | simp [mcShare, bI, c5_1, c15_2, ]) (by first | rfl | (simp only [mcShare, bI, c5_1, c15_2,  ↓reduceIte, Bool.false_eq_true, reduceCtorEq, i10, i20, i30, i40]; done) | simp [mcShare, bI, c5_1, c15_2, ]))] at hI
      exact end_rwf hx hb hr (by first | (simp only [mcShare, bI, c5_1, c15_2,  ↓reduceIte, Bool.false_eq_true, reduceCtorEq, i10, i20, i30, i40]; done) | simp [mcShare, bI, c5_1, c15_2, ]) hI hS dX4_share_48 hlk

set_option maxHeartbeats 4000000 in
set_option maxRecDepth 100000 in
theorem c_X4_addMirror (l : Launch) (D : va_G) (cy : Nat → ClassId) (h0 : Nat) (q : Nat → Nat) (A : Nat → Nat → Int32) (S : Nat → Int32) (nm : Nat) (hnm : nm ≤ 3) (hcm : S 2 = nI nm) : Met l yX4_addMirror wsX4_addMirror (rmO 2 21) (va_Pc [.ref (q 0)] (pI D cy h0 (wM cy q A S))) (rwI (if mcAddMirror S = 0 then S 2 else 0) D cy h0 (wM cy q A (if mcAddMirror S = 0 then uS (uS S 5 0) 2 (S 2 + 1) else uS S 5 (mcAddMirror S))) (qA 18 q)) 0 0 (qA 18 q) := by
  refine Met.ofW (cc := cX4_addMirror) (maxL := 1) (ret := (some .int)) (by decide) rfl ?_
  intro p e s m args below meth c s₁ B hml hv
  obtain ⟨rfl, hI⟩ := hv
  have hx := B.exec
  have hb := B.bytes
  have hr := B.returns
  have hts := atoms_spec (ws := wsX4_addMirror) B.pre
  have hown : s.vm.findClass RX4 = some m.cls := findClass_of_methodNamed B.named
  have hlk := B.notSynchronized
  have hI : IH D cy h0 (wM cy q A S) s s.heap := hI
  have hG := hI.1
  have hqA := hA_M hI
  have hh0 : h0 ≤ s.heap.size := hI.1.2.2.2
  have hS : va_S nof s.heap s.heap [] := va_S.rf
  have hi4 : ∀ w ∈ wsX40, w ∈ wsX4_addMirror := by decide +kernel
  have hl := lv_entry ([.ref (q 0)]) (n := 1) (Nat.le_of_ble_eq_true rfl)
  rw [lg_entry_eq]
  generalize (lg_sl ([.ref (q 0)]) ++ List.replicate (1 - (lg_sl ([.ref (q 0)])).length) Slot.unset).toArray = ls at hl ⊢
  have hl : lv_has ls 1 [(0, .ref (q 0))] := hl
  refine lv_aload_n hx hb dX4_addMirror_0 rfl (lv_at hl 0 rfl) ?_
  refine lv_aload_n hx hb dX4_addMirror_1 rfl (lv_at hl 0 rfl) ?_
  refine r_get (C := RX4) (T := TX4) (N := 23) (k := 16) (q0 := 0) (v := .int (S 2)) hx hb hts hi4 hown hI rfl rfl (by decide) (hts (.fieldLink RX4 83 "BuildlotsModel" "mirrors" "I") (List.mem_of_getElem? (i := 1) rfl)) rfl rfl dX4_addMirror_2 ?_
  refine lv_iconst (v := 3) hx hb dX4_addMirror_5 (by decide) ?_
  refine lv_icmp_ne (tgt := 13) hx hb dX4_addMirror_6 (by decide) (fun c6_1 => ?_) (fun c6_1 => ?_)
  · refine lv_iconst (v := 0) hx hb dX4_addMirror_13 (by decide) ?_
    have hS := hS.mono (B := qA 18 q) (fun _ h => h.elim)
    refine rw_i (w' := wM cy q A (uS S 5 0)) (va_runV (As := [.int 0]) (rest := []) ⟨hx, hb, hml, hown, hts⟩ (c_X4_fails l D cy h0 q A S 0) (cwV 1 hts gX4_addMirror_X4_fails rfl rfl rfl (by decide +kernel) ⟨Nat.le_of_ble_eq_true rfl, Nat.le_of_ble_eq_true rfl⟩) (hI.preV (k0 := 0) rfl rfl) rfl rfl hl.1 rfl (lv_room (Nat.le_of_ble_eq_true rfl)) dX4_addMirror_14 ⟨Nat.le_of_ble_eq_true rfl, Nat.le_of_ble_eq_true rfl⟩) hI hS (fun _ h => h) hqA (fun H locs hI hS => ?_)
    rw [show (bI (failsB 0)) = 0 from (by decide)]
    refine lv_if_eq (tgt := 22) hx hb dX4_addMirror_17 (by decide) (fun c17_2 => ?_) (fun c17_2 => ?_)
    rotate_left
    · exact absurd c17_2 (by decide)
    refine lv_aload_n hx hb dX4_addMirror_22 rfl (lv_at hl 0 rfl) ?_
    refine lv_dup hx hb dX4_addMirror_23 rfl ?_
    refine r_get (C := RX4) (T := TX4) (N := 23) (k := 16) (q0 := 0) (v := .int (S 2)) hx hb hts hi4 hown hI rfl rfl (by decide) (hts (.fieldLink RX4 83 "BuildlotsModel" "mirrors" "I") (List.mem_of_getElem? (i := 1) rfl)) rfl rfl dX4_addMirror_24 ?_
    refine lv_iconst (v := 1) hx hb dX4_addMirror_27 (by decide) ?_
    refine lv_iadd hx hb dX4_addMirror_28 ?_
    refine r_put (w' := wM cy q A (uS (uS S 5 0) 2 ((S 2) + 1))) (C := RX4) (T := TX4) (N := 23) (k := 16) (q0 := 0) (ty := .int) (v := .int ((S 2) + 1)) hx hb hts hi4 tyX4_ok nmX4 hown hI hS hqA hh0 (qA_M hI) rfl rfl (by decide) (hts (.fieldLink RX4 83 "BuildlotsModel" "mirrors" "I") (List.mem_of_getElem? (i := 1) rfl)) rfl rfl (by decide +kernel) rfl rfl (Nat.le_of_ble_eq_true rfl) dX4_addMirror_29 rfl (fun H locs hI hS => ?_)
    refine lv_aload_n hx hb dX4_addMirror_32 rfl (lv_at hl 0 rfl) ?_
    refine r_get (C := RX4) (T := TX4) (N := 23) (k := 16) (q0 := 0) (v := .int ((S 2) + 1)) hx hb hts hi4 hown hI rfl rfl (by decide) (hts (.fieldLink RX4 83 "BuildlotsModel" "mirrors" "I") (List.mem_of_getElem? (i := 1) rfl)) rfl rfl dX4_addMirror_33 ?_
    refine lv_iconst (v := 1) hx hb dX4_addMirror_36 (by decide) ?_
    refine lv_isub hx hb dX4_addMirror_37 ?_
    rw [show wM cy q A (uS (uS S 5 0) 2 ((S 2) + 1)) = wM cy q A (if mcAddMirror S = 0 then uS (uS S 5 0) 2 (S 2 + 1) else uS S 5 (mcAddMirror S)) from (wM_A (by first | rfl | (simp only [sub1, mcAddMirror, bI, c6_1,  ↓reduceIte, Bool.false_eq_true, reduceCtorEq, i10, i20, i30, i40]; done) | simp [sub1, mcAddMirror, bI, c6_1, ]) (by first | rfl | (simp only [sub1, mcAddMirror, bI, c6_1,  ↓reduceIte, Bool.false_eq_true, reduceCtorEq, i10, i20, i30, i40]; done) | simp [sub1, mcAddMirror, bI, c6_1, ]))] at hI
    exact end_rwi hx hb hr (by first | (simp only [sub1, mcAddMirror, bI, c6_1,  ↓reduceIte, Bool.false_eq_true, reduceCtorEq, i10, i20, i30, i40]; done) | simp [sub1, mcAddMirror, bI, c6_1, ]) hI hS dX4_addMirror_38 hlk
  · refine lv_iconst (v := 1) hx hb dX4_addMirror_9 (by decide) ?_
    refine lv_goto (tgt := 14) hx hb dX4_addMirror_10 (by decide) ?_
    have hS := hS.mono (B := qA 18 q) (fun _ h => h.elim)
    refine rw_i (w' := wM cy q A (uS S 5 1)) (va_runV (As := [.int 1]) (rest := []) ⟨hx, hb, hml, hown, hts⟩ (c_X4_fails l D cy h0 q A S 1) (cwV 1 hts gX4_addMirror_X4_fails rfl rfl rfl (by decide +kernel) ⟨Nat.le_of_ble_eq_true rfl, Nat.le_of_ble_eq_true rfl⟩) (hI.preV (k0 := 0) rfl rfl) rfl rfl hl.1 rfl (lv_room (Nat.le_of_ble_eq_true rfl)) dX4_addMirror_14 ⟨Nat.le_of_ble_eq_true rfl, Nat.le_of_ble_eq_true rfl⟩) hI hS (fun _ h => h) hqA (fun H locs hI hS => ?_)
    rw [show (bI (failsB 1)) = 1 from (by decide)]
    refine lv_if_eq (tgt := 22) hx hb dX4_addMirror_17 (by decide) (fun c17_3 => ?_) (fun c17_3 => ?_)
    · exact absurd c17_3 (by decide)
    refine lv_iconst (v := 0) hx hb dX4_addMirror_20 (by decide) ?_
    rw [show wM cy q A (uS S 5 1) = wM cy q A (if mcAddMirror S = 0 then uS (uS S 5 0) 2 (S 2 + 1) else uS S 5 (mcAddMirror S)) from (wM_A (by first | rfl | (simp only [sub1, mcAddMirror, bI, c6_1,  ↓reduceIte, Bool.false_eq_true, reduceCtorEq, i10, i20, i30, i40]; done) | simp [sub1, mcAddMirror, bI, c6_1, ]) (by first | rfl | (simp only [sub1, mcAddMirror, bI, c6_1,  ↓reduceIte, Bool.false_eq_true, reduceCtorEq, i10, i20, i30, i40]; done) | simp [sub1, mcAddMirror, bI, c6_1, ]))] at hI
    exact end_rwi hx hb hr (by first | (simp only [sub1, mcAddMirror, bI, c6_1,  ↓reduceIte, Bool.false_eq_true, reduceCtorEq, i10, i20, i30, i40]; done) | simp [sub1, mcAddMirror, bI, c6_1, ]) hI hS dX4_addMirror_21 hlk

set_option maxHeartbeats 4000000 in
set_option maxRecDepth 100000 in
theorem c_X4_update (l : Launch) (D : va_G) (cy : Nat → ClassId) (h0 : Nat) (q : Nat → Nat) (A : Nat → Nat → Int32) (S : Nat → Int32) (x : Int32) (nb : Nat) (hnb : nb ≤ 24) (hcb : S 1 = nI nb) (nm : Nat) (hnm : nm ≤ 3) (hcm : S 2 = nI nm) : Met l yX4_update wsX4_update (rmO 3 44) (va_Pc [.ref (q 0), .int x] (pI D cy h0 (wM cy q A S))) (rwI (if mcR x nm = 0 then S 1 else 0) D cy h0 (wM cy q (if mcR x nm = 0 then mupA A S x nb else A) (uS S 5 (mcR x nm))) (qA 18 q)) 0 0 (qA 18 q) := by
  refine Met.ofW (cc := cX4_update) (maxL := 2) (ret := (some .int)) (by decide) rfl ?_
  intro p e s m args below meth c s₁ B hml hv
  obtain ⟨rfl, hI⟩ := hv
  have hx := B.exec
  have hb := B.bytes
  have hr := B.returns
  have hts := atoms_spec (ws := wsX4_update) B.pre
  have hown : s.vm.findClass RX4 = some m.cls := findClass_of_methodNamed B.named
  have hlk := B.notSynchronized
  have hI : IH D cy h0 (wM cy q A S) s s.heap := hI
  have hG := hI.1
  have hqA := hA_M hI
  have hh0 : h0 ≤ s.heap.size := hI.1.2.2.2
  have hS : va_S nof s.heap s.heap [] := va_S.rf
  have hi4 : ∀ w ∈ wsX40, w ∈ wsX4_update := by decide +kernel
  have hl := lv_entry ([.ref (q 0), .int x]) (n := 2) (Nat.le_of_ble_eq_true rfl)
  rw [lg_entry_eq]
  generalize (lg_sl ([.ref (q 0), .int x]) ++ List.replicate (2 - (lg_sl ([.ref (q 0), .int x])).length) Slot.unset).toArray = ls at hl ⊢
  have hl : lv_has ls 2 [(0, .ref (q 0)), (1, .int x)] := hl
  refine lv_aload_n hx hb dX4_update_0 rfl (lv_at hl 0 rfl) ?_
  refine lv_iload_n hx hb dX4_update_1 rfl (lv_at hl 1 rfl) ?_
  have hS := hS.mono (B := qA 18 q) (fun _ h => h.elim)
  refine rw_i (w' := wM cy q A (uS S 5 (bI (noR x nm)))) (va_runV (As := [.int x]) (rest := []) ⟨hx, hb, hml, hown, hts⟩ (c_X4_isNoMirror l D cy h0 q A S x nm hnm hcm) (cwV 1 hts gX4_update_X4_isNoMirror rfl rfl rfl (by decide +kernel) ⟨Nat.le_of_ble_eq_true rfl, Nat.le_of_ble_eq_true rfl⟩) (hI.preV (k0 := 0) rfl rfl) rfl rfl hl.1 rfl (lv_room (Nat.le_of_ble_eq_true rfl)) dX4_update_2 ⟨Nat.le_of_ble_eq_true rfl, Nat.le_of_ble_eq_true rfl⟩) hI hS (fun _ h => h) hqA (fun H locs hI hS => ?_)
  refine r_ifeq_b (tgt := 10) hx hb dX4_update_5 (by decide) (fun c5_1 => ?_) (fun c5_1 => ?_)
  · obtain ⟨hj_x, hk_x⟩ := noR_c (by omega) c5_1
    refine lv_aload_n hx hb dX4_update_10 rfl (lv_at hl 0 rfl) ?_
    refine r_get (C := RX4) (T := TX4) (N := 23) (k := 17) (q0 := 0) (v := .ref (q 15)) hx hb hts hi4 hown hI rfl rfl (by decide) (hts (.fieldLink RX4 53 "BuildlotsModel" "listed" "[I") (List.mem_of_getElem? (i := 1) rfl)) rfl rfl dX4_update_11 ?_
    refine lv_iload_n hx hb dX4_update_14 rfl (lv_at hl 1 rfl) ?_
    refine lv_iconst (v := 1) hx hb dX4_update_15 (by decide) ?_
    refine lv_aload_n hx hb dX4_update_16 rfl (lv_at hl 0 rfl) ?_
    refine r_get (C := RX4) (T := TX4) (N := 23) (k := 7) (q0 := 0) (v := .int (S 1)) hx hb hts hi4 hown hI rfl rfl (by decide) (hts (.fieldLink RX4 80 "BuildlotsModel" "builds" "I") (List.mem_of_getElem? (i := 2) rfl)) rfl rfl dX4_update_17 ?_
    refine lv_ishl hx hb dX4_update_20 ?_
    refine lv_iconst (v := 1) hx hb dX4_update_21 (by decide) ?_
    refine lv_isub hx hb dX4_update_22 ?_
    refine r_iast (w' := wM cy q (uA A 14 (upd (A 14) (ix x) (((1 : Int32) <<< ((S 1) &&& 31)) - 1))) (uS S 5 (bI (noR x nm)))) (q0 := 15) (j := (ix x)) (n := 3) (f := (A 14)) hx hb hI hS hqA hh0 (qA_M hI) rfl hk_x (by omega) (by decide) dX4_update_23 rfl (fun H locs hI hS => ?_)
    refine lv_aload_n hx hb dX4_update_24 rfl (lv_at hl 0 rfl) ?_
    refine r_get (C := RX4) (T := TX4) (N := 23) (k := 18) (q0 := 0) (v := .ref (q 16)) hx hb hts hi4 hown hI rfl rfl (by decide) (hts (.fieldLink RX4 56 "BuildlotsModel" "listRecalled" "[I") (List.mem_of_getElem? (i := 3) rfl)) rfl rfl dX4_update_25 ?_
    refine lv_iload_n hx hb dX4_update_28 rfl (lv_at hl 1 rfl) ?_
    refine lv_aload_n hx hb dX4_update_29 rfl (lv_at hl 0 rfl) ?_
    refine ro_i (va_runV (As := []) (rest := [.int x, .ref (q 16)]) ⟨hx, hb, hml, hown, hts⟩ (c_X4_recalled l D cy h0 q (uA A 14 (upd (A 14) (ix x) (((1 : Int32) <<< ((S 1) &&& 31)) - 1))) (uS S 5 (bI (noR x nm))) nb hnb hcb) (cwV 0 hts gX4_update_X4_recalled rfl rfl rfl (by decide +kernel) ⟨Nat.le_of_ble_eq_true rfl, Nat.le_of_ble_eq_true rfl⟩) (hI.preV (k0 := 0) rfl rfl) rfl rfl hl.1 rfl (lv_room (Nat.le_of_ble_eq_true rfl)) dX4_update_30 ⟨Nat.le_of_ble_eq_true rfl, Nat.le_of_ble_eq_true rfl⟩) hI hS (fun H locs hI hS => ?_)
    rw [show (rmF (uA A 14 (upd (A 14) (ix x) (((1 : Int32) <<< ((S 1) &&& 31)) - 1))) nb) = rmF A nb from (rmF_14 _ _ _)]
    refine r_iast (w' := wM cy q (uA (uA A 14 (upd (A 14) (ix x) (((1 : Int32) <<< ((S 1) &&& 31)) - 1))) 15 (upd (A 15) (ix x) (rmF A nb))) (uS S 5 (bI (noR x nm)))) (q0 := 16) (j := (ix x)) (n := 3) (f := (A 15)) hx hb hI hS hqA hh0 (qA_M hI) rfl hk_x (by omega) (by decide) dX4_update_33 rfl (fun H locs hI hS => ?_)
    refine lv_aload_n hx hb dX4_update_34 rfl (lv_at hl 0 rfl) ?_
    refine r_get (C := RX4) (T := TX4) (N := 23) (k := 19) (q0 := 0) (v := .ref (q 17)) hx hb hts hi4 hown hI rfl rfl (by decide) (hts (.fieldLink RX4 59 "BuildlotsModel" "listedOn" "[I") (List.mem_of_getElem? (i := 4) rfl)) rfl rfl dX4_update_35 ?_
    refine lv_iload_n hx hb dX4_update_38 rfl (lv_at hl 1 rfl) ?_
    refine lv_aload_n hx hb dX4_update_39 rfl (lv_at hl 0 rfl) ?_
    refine r_get (C := RX4) (T := TX4) (N := 23) (k := 21) (q0 := 0) (v := .int (S 4)) hx hb hts hi4 hown hI rfl rfl (by decide) (hts (.fieldLink RX4 86 "BuildlotsModel" "day" "I") (List.mem_of_getElem? (i := 5) rfl)) rfl rfl dX4_update_40 ?_
    refine r_iast (w' := wM cy q (uA (uA (uA A 14 (upd (A 14) (ix x) (((1 : Int32) <<< ((S 1) &&& 31)) - 1))) 15 (upd (A 15) (ix x) (rmF A nb))) 16 (upd (A 16) (ix x) (S 4))) (uS S 5 (bI (noR x nm)))) (q0 := 17) (j := (ix x)) (n := 3) (f := (A 16)) hx hb hI hS hqA hh0 (qA_M hI) rfl hk_x (by omega) (by decide) dX4_update_43 rfl (fun H locs hI hS => ?_)
    refine lv_aload_n hx hb dX4_update_44 rfl (lv_at hl 0 rfl) ?_
    refine r_get (C := RX4) (T := TX4) (N := 23) (k := 7) (q0 := 0) (v := .int (S 1)) hx hb hts hi4 hown hI rfl rfl (by decide) (hts (.fieldLink RX4 80 "BuildlotsModel" "builds" "I") (List.mem_of_getElem? (i := 2) rfl)) rfl rfl dX4_update_45 ?_
    rw [show wM cy q (uA (uA (uA A 14 (upd (A 14) (ix x) (((1 : Int32) <<< ((S 1) &&& 31)) - 1))) 15 (upd (A 15) (ix x) (rmF A nb))) 16 (upd (A 16) (ix x) (S 4))) (uS S 5 (bI (noR x nm))) = wM cy q (if mcR x nm = 0 then mupA A S x nb else A) (uS S 5 (mcR x nm)) from (wM_A (by first | rfl | (simp only [mupA, mcR, bI, c5_1,  ↓reduceIte, Bool.false_eq_true, reduceCtorEq, i10, i20, i30, i40]; done) | simp [mupA, mcR, bI, c5_1, ]) (by first | rfl | (simp only [mupA, mcR, bI, c5_1,  ↓reduceIte, Bool.false_eq_true, reduceCtorEq, i10, i20, i30, i40]; done) | simp [mupA, mcR, bI, c5_1, ]))] at hI
    exact end_rwi hx hb hr (by first | (simp only [mupA, mcR, bI, c5_1,  ↓reduceIte, Bool.false_eq_true, reduceCtorEq, i10, i20, i30, i40]; done) | simp [mupA, mcR, bI, c5_1, ]) hI hS dX4_update_48 hlk
  · refine lv_iconst (v := 0) hx hb dX4_update_8 (by decide) ?_
    rw [show wM cy q A (uS S 5 (bI (noR x nm))) = wM cy q (if mcR x nm = 0 then mupA A S x nb else A) (uS S 5 (mcR x nm)) from (wM_A (by first | rfl | (simp only [mupA, mcR, bI, c5_1,  ↓reduceIte, Bool.false_eq_true, reduceCtorEq, i10, i20, i30, i40]; done) | simp [mupA, mcR, bI, c5_1, ]) (by first | rfl | (simp only [mupA, mcR, bI, c5_1,  ↓reduceIte, Bool.false_eq_true, reduceCtorEq, i10, i20, i30, i40]; done) | simp [mupA, mcR, bI, c5_1, ]))] at hI
    exact end_rwi hx hb hr (by first | (simp only [mupA, mcR, bI, c5_1,  ↓reduceIte, Bool.false_eq_true, reduceCtorEq, i10, i20, i30, i40]; done) | simp [mupA, mcR, bI, c5_1, ]) hI hS dX4_update_9 hlk

set_option maxHeartbeats 4000000 in
set_option maxRecDepth 100000 in
theorem c_X4_isExpired (l : Launch) (D : va_G) (cy : Nat → ClassId) (h0 : Nat) (q : Nat → Nat) (A : Nat → Nat → Int32) (S : Nat → Int32) (x : Int32) (nm : Nat) (hnm : nm ≤ 3) (hcm : S 2 = nI nm) : Met l yX4_isExpired wsX4_isExpired (rmO 3 43) (va_Pc [.ref (q 0), .int x] (pI D cy h0 (wM cy q A S))) (rwI (bI (!noR x nm && oldB A S (ix x))) D cy h0 (wM cy q A (uS S 5 (mcR x nm))) (qA 18 q)) 0 0 (qA 18 q) := by
  refine Met.ofW (cc := cX4_isExpired) (maxL := 2) (ret := (some .boolean)) (by decide) rfl ?_
  intro p e s m args below meth c s₁ B hml hv
  obtain ⟨rfl, hI⟩ := hv
  have hx := B.exec
  have hb := B.bytes
  have hr := B.returns
  have hts := atoms_spec (ws := wsX4_isExpired) B.pre
  have hown : s.vm.findClass RX4 = some m.cls := findClass_of_methodNamed B.named
  have hlk := B.notSynchronized
  have hI : IH D cy h0 (wM cy q A S) s s.heap := hI
  have hG := hI.1
  have hqA := hA_M hI
  have hh0 : h0 ≤ s.heap.size := hI.1.2.2.2
  have hS : va_S nof s.heap s.heap [] := va_S.rf
  have hi4 : ∀ w ∈ wsX40, w ∈ wsX4_isExpired := by decide +kernel
  have hl := lv_entry ([.ref (q 0), .int x]) (n := 2) (Nat.le_of_ble_eq_true rfl)
  rw [lg_entry_eq]
  generalize (lg_sl ([.ref (q 0), .int x]) ++ List.replicate (2 - (lg_sl ([.ref (q 0), .int x])).length) Slot.unset).toArray = ls at hl ⊢
  have hl : lv_has ls 2 [(0, .ref (q 0)), (1, .int x)] := hl
  refine lv_aload_n hx hb dX4_isExpired_0 rfl (lv_at hl 0 rfl) ?_
  refine lv_iload_n hx hb dX4_isExpired_1 rfl (lv_at hl 1 rfl) ?_
  have hS := hS.mono (B := qA 18 q) (fun _ h => h.elim)
  refine rw_i (w' := wM cy q A (uS S 5 (bI (noR x nm)))) (va_runV (As := [.int x]) (rest := []) ⟨hx, hb, hml, hown, hts⟩ (c_X4_isNoMirror l D cy h0 q A S x nm hnm hcm) (cwV 1 hts gX4_isExpired_X4_isNoMirror rfl rfl rfl (by decide +kernel) ⟨Nat.le_of_ble_eq_true rfl, Nat.le_of_ble_eq_true rfl⟩) (hI.preV (k0 := 0) rfl rfl) rfl rfl hl.1 rfl (lv_room (Nat.le_of_ble_eq_true rfl)) dX4_isExpired_2 ⟨Nat.le_of_ble_eq_true rfl, Nat.le_of_ble_eq_true rfl⟩) hI hS (fun _ h => h) hqA (fun H locs hI hS => ?_)
  refine r_ifne_b (tgt := 20) hx hb dX4_isExpired_5 (by decide) (fun c5_1 => ?_) (fun c5_1 => ?_)
  · refine lv_iconst (v := 0) hx hb dX4_isExpired_20 (by decide) ?_
    rw [show wM cy q A (uS S 5 (bI (noR x nm))) = wM cy q A (uS S 5 (mcR x nm)) from (wM_A (by first | rfl | (simp only [bI, mcR, c5_1,  ↓reduceIte, Bool.false_eq_true, reduceCtorEq, i10, i20, i30, i40]; done) | simp [bI, mcR, c5_1, ]) (by first | rfl | (simp only [bI, mcR, c5_1,  ↓reduceIte, Bool.false_eq_true, reduceCtorEq, i10, i20, i30, i40]; done) | simp [bI, mcR, c5_1, ]))] at hI
    exact end_rwz hx hb hr rfl (by first | (simp only [bI, mcR, c5_1,  ↓reduceIte, Bool.false_eq_true, reduceCtorEq, i10, i20, i30, i40]; done) | simp [bI, mcR, c5_1, ]) hI hS dX4_isExpired_21 hlk
  · obtain ⟨hj_x, hk_x⟩ := noR_c (by omega) c5_1
    refine lv_aload_n hx hb dX4_isExpired_8 rfl (lv_at hl 0 rfl) ?_
    refine lv_iload_n hx hb dX4_isExpired_9 rfl (lv_at hl 1 rfl) ?_
    refine ro_i (va_runV (As := [.int x]) (rest := []) ⟨hx, hb, hml, hown, hts⟩ (c_X4_isOld l D cy h0 q A (uS S 5 (bI (noR x nm))) x (ix x) (by omega) hk_x) (cwV 1 hts gX4_isExpired_X4_isOld rfl rfl rfl (by decide +kernel) ⟨Nat.le_of_ble_eq_true rfl, Nat.le_of_ble_eq_true rfl⟩) (hI.preV (k0 := 0) rfl rfl) rfl rfl hl.1 rfl (lv_room (Nat.le_of_ble_eq_true rfl)) dX4_isExpired_10 ⟨Nat.le_of_ble_eq_true rfl, Nat.le_of_ble_eq_true rfl⟩) hI hS (fun H locs hI hS => ?_)
    rw [oldB_5]
    refine r_ifeq_b (tgt := 20) hx hb dX4_isExpired_13 (by decide) (fun c13_2 => ?_) (fun c13_2 => ?_)
    · refine lv_iconst (v := 0) hx hb dX4_isExpired_20 (by decide) ?_
      rw [show wM cy q A (uS S 5 (bI (noR x nm))) = wM cy q A (uS S 5 (mcR x nm)) from (wM_A (by first | rfl | (simp only [bI, mcR, c5_1, c13_2,  ↓reduceIte, Bool.false_eq_true, reduceCtorEq, i10, i20, i30, i40]; done) | simp [bI, mcR, c5_1, c13_2, ]) (by first | rfl | (simp only [bI, mcR, c5_1, c13_2,  ↓reduceIte, Bool.false_eq_true, reduceCtorEq, i10, i20, i30, i40]; done) | simp [bI, mcR, c5_1, c13_2, ]))] at hI
      exact end_rwz hx hb hr rfl (by first | (simp only [bI, mcR, c5_1, c13_2,  ↓reduceIte, Bool.false_eq_true, reduceCtorEq, i10, i20, i30, i40]; done) | simp [bI, mcR, c5_1, c13_2, ]) hI hS dX4_isExpired_21 hlk
    · refine lv_iconst (v := 1) hx hb dX4_isExpired_16 (by decide) ?_
      refine lv_goto (tgt := 21) hx hb dX4_isExpired_17 (by decide) ?_
      rw [show wM cy q A (uS S 5 (bI (noR x nm))) = wM cy q A (uS S 5 (mcR x nm)) from (wM_A (by first | rfl | (simp only [bI, mcR, c5_1, c13_2,  ↓reduceIte, Bool.false_eq_true, reduceCtorEq, i10, i20, i30, i40]; done) | simp [bI, mcR, c5_1, c13_2, ]) (by first | rfl | (simp only [bI, mcR, c5_1, c13_2,  ↓reduceIte, Bool.false_eq_true, reduceCtorEq, i10, i20, i30, i40]; done) | simp [bI, mcR, c5_1, c13_2, ]))] at hI
      exact end_rwz hx hb hr rfl (by first | (simp only [bI, mcR, c5_1, c13_2,  ↓reduceIte, Bool.false_eq_true, reduceCtorEq, i10, i20, i30, i40]; done) | simp [bI, mcR, c5_1, c13_2, ]) hI hS dX4_isExpired_21 hlk

set_option maxHeartbeats 4000000 in
set_option maxRecDepth 100000 in
theorem c_X4_setExpiry (l : Launch) (D : va_G) (cy : Nat → ClassId) (h0 : Nat) (q : Nat → Nat) (A : Nat → Nat → Int32) (S : Nat → Int32) (d : Int32) : Met l yX4_setExpiry wsX4_setExpiry (rmO 2 22) (va_Pc [.ref (q 0), .int d] (pI D cy h0 (wM cy q A S))) (rwI (if mcSetExpiry d = 0 then S 3 else 0) D cy h0 (wM cy q A (if mcSetExpiry d = 0 then uS (uS S 5 0) 3 d else uS S 5 (mcSetExpiry d))) (qA 18 q)) 0 0 (qA 18 q) := by
  refine Met.ofW (cc := cX4_setExpiry) (maxL := 3) (ret := (some .int)) (by decide) rfl ?_
  intro p e s m args below meth c s₁ B hml hv
  obtain ⟨rfl, hI⟩ := hv
  have hx := B.exec
  have hb := B.bytes
  have hr := B.returns
  have hts := atoms_spec (ws := wsX4_setExpiry) B.pre
  have hown : s.vm.findClass RX4 = some m.cls := findClass_of_methodNamed B.named
  have hlk := B.notSynchronized
  have hI : IH D cy h0 (wM cy q A S) s s.heap := hI
  have hG := hI.1
  have hqA := hA_M hI
  have hh0 : h0 ≤ s.heap.size := hI.1.2.2.2
  have hS : va_S nof s.heap s.heap [] := va_S.rf
  have hi4 : ∀ w ∈ wsX40, w ∈ wsX4_setExpiry := by decide +kernel
  have hl := lv_entry ([.ref (q 0), .int d]) (n := 3) (Nat.le_of_ble_eq_true rfl)
  rw [lg_entry_eq]
  generalize (lg_sl ([.ref (q 0), .int d]) ++ List.replicate (3 - (lg_sl ([.ref (q 0), .int d])).length) Slot.unset).toArray = ls at hl ⊢
  have hl : lv_has ls 3 [(0, .ref (q 0)), (1, .int d)] := hl
  refine lv_aload_n hx hb dX4_setExpiry_0 rfl (lv_at hl 0 rfl) ?_
  refine lv_iload_n hx hb dX4_setExpiry_1 rfl (lv_at hl 1 rfl) ?_
  refine lv_iconst (v := 0) hx hb dX4_setExpiry_2 (by decide) ?_
  refine lv_bipush (v := 99) hx hb dX4_setExpiry_3 (by decide) ?_
  refine ro_i (va_runS (As := [.int d, .int 0, .int 99]) (rest := [.ref (q 0)]) ⟨hx, hb, hml, hown, hts⟩ (c_X4_in l d 0 99) (va_cwS 3 hts gX4_setExpiry_X4_in rfl rfl rfl (by decide +kernel) ⟨Nat.le_of_ble_eq_true rfl, Nat.le_of_ble_eq_true rfl⟩) preT rfl rfl hl.1 rfl (lv_room (Nat.le_of_ble_eq_true rfl)) dX4_setExpiry_5 ⟨Nat.le_of_ble_eq_true rfl, Nat.le_of_ble_eq_true rfl⟩) hI hS (fun H locs hI hS => ?_)
  refine r_ifeq_b (tgt := 15) hx hb dX4_setExpiry_8 (by decide) (fun c8_1 => ?_) (fun c8_1 => ?_)
  · refine lv_iconst (v := 1) hx hb dX4_setExpiry_15 (by decide) ?_
    have hS := hS.mono (B := qA 18 q) (fun _ h => h.elim)
    refine rw_i (w' := wM cy q A (uS S 5 1)) (va_runV (As := [.int 1]) (rest := []) ⟨hx, hb, hml, hown, hts⟩ (c_X4_fails l D cy h0 q A S 1) (cwV 1 hts gX4_setExpiry_X4_fails rfl rfl rfl (by decide +kernel) ⟨Nat.le_of_ble_eq_true rfl, Nat.le_of_ble_eq_true rfl⟩) (hI.preV (k0 := 0) rfl rfl) rfl rfl hl.1 rfl (lv_room (Nat.le_of_ble_eq_true rfl)) dX4_setExpiry_16 ⟨Nat.le_of_ble_eq_true rfl, Nat.le_of_ble_eq_true rfl⟩) hI hS (fun _ h => h) hqA (fun H locs hI hS => ?_)
    rw [show (bI (failsB 1)) = 1 from (by decide)]
    refine lv_if_eq (tgt := 24) hx hb dX4_setExpiry_19 (by decide) (fun c19_2 => ?_) (fun c19_2 => ?_)
    · exact absurd c19_2 (by decide)
    refine lv_iconst (v := 0) hx hb dX4_setExpiry_22 (by decide) ?_
    rw [show wM cy q A (uS S 5 1) = wM cy q A (if mcSetExpiry d = 0 then uS (uS S 5 0) 3 d else uS S 5 (mcSetExpiry d)) from (wM_A (by first | rfl | (simp only [mcSetExpiry, bI, c8_1,  ↓reduceIte, Bool.false_eq_true, reduceCtorEq, i10, i20, i30, i40]; done) | simp [mcSetExpiry, bI, c8_1, ]) (by first | rfl | (simp only [mcSetExpiry, bI, c8_1,  ↓reduceIte, Bool.false_eq_true, reduceCtorEq, i10, i20, i30, i40]; done) | simp [mcSetExpiry, bI, c8_1, ]))] at hI
    exact end_rwi hx hb hr (by first | (simp only [mcSetExpiry, bI, c8_1,  ↓reduceIte, Bool.false_eq_true, reduceCtorEq, i10, i20, i30, i40]; done) | simp [mcSetExpiry, bI, c8_1, ]) hI hS dX4_setExpiry_23 hlk
  · refine lv_iconst (v := 0) hx hb dX4_setExpiry_11 (by decide) ?_
    refine lv_goto (tgt := 16) hx hb dX4_setExpiry_12 (by decide) ?_
    have hS := hS.mono (B := qA 18 q) (fun _ h => h.elim)
    refine rw_i (w' := wM cy q A (uS S 5 0)) (va_runV (As := [.int 0]) (rest := []) ⟨hx, hb, hml, hown, hts⟩ (c_X4_fails l D cy h0 q A S 0) (cwV 1 hts gX4_setExpiry_X4_fails rfl rfl rfl (by decide +kernel) ⟨Nat.le_of_ble_eq_true rfl, Nat.le_of_ble_eq_true rfl⟩) (hI.preV (k0 := 0) rfl rfl) rfl rfl hl.1 rfl (lv_room (Nat.le_of_ble_eq_true rfl)) dX4_setExpiry_16 ⟨Nat.le_of_ble_eq_true rfl, Nat.le_of_ble_eq_true rfl⟩) hI hS (fun _ h => h) hqA (fun H locs hI hS => ?_)
    rw [show (bI (failsB 0)) = 0 from (by decide)]
    refine lv_if_eq (tgt := 24) hx hb dX4_setExpiry_19 (by decide) (fun c19_3 => ?_) (fun c19_3 => ?_)
    rotate_left
    · exact absurd c19_3 (by decide)
    refine lv_aload_n hx hb dX4_setExpiry_24 rfl (lv_at hl 0 rfl) ?_
    refine r_get (C := RX4) (T := TX4) (N := 23) (k := 20) (q0 := 0) (v := .int (S 3)) hx hb hts hi4 hown hI rfl rfl (by decide) (hts (.fieldLink RX4 62 "BuildlotsModel" "expiry" "I") (List.mem_of_getElem? (i := 1) rfl)) rfl rfl dX4_setExpiry_25 ?_
    refine lv_istore_n (lv' := [(2, .int (S 3)), (0, .ref (q 0)), (1, .int d)]) hx hb dX4_setExpiry_28 rfl hl (by decide) rfl (fun ls hl => ?_)
    refine lv_aload_n hx hb dX4_setExpiry_29 rfl (lv_at hl 1 rfl) ?_
    refine lv_iload_n hx hb dX4_setExpiry_30 rfl (lv_at hl 2 rfl) ?_
    refine r_put (w' := wM cy q A (uS (uS S 5 0) 3 d)) (C := RX4) (T := TX4) (N := 23) (k := 20) (q0 := 0) (ty := .int) (v := .int d) hx hb hts hi4 tyX4_ok nmX4 hown hI hS hqA hh0 (qA_M hI) rfl rfl (by decide) (hts (.fieldLink RX4 62 "BuildlotsModel" "expiry" "I") (List.mem_of_getElem? (i := 1) rfl)) rfl rfl (by decide +kernel) rfl rfl (Nat.le_of_ble_eq_true rfl) dX4_setExpiry_31 rfl (fun H locs hI hS => ?_)
    refine lv_iload_n hx hb dX4_setExpiry_34 rfl (lv_at hl 0 rfl) ?_
    rw [show wM cy q A (uS (uS S 5 0) 3 d) = wM cy q A (if mcSetExpiry d = 0 then uS (uS S 5 0) 3 d else uS S 5 (mcSetExpiry d)) from (wM_A (by first | rfl | (simp only [mcSetExpiry, bI, c8_1,  ↓reduceIte, Bool.false_eq_true, reduceCtorEq, i10, i20, i30, i40]; done) | simp [mcSetExpiry, bI, c8_1, ]) (by first | rfl | (simp only [mcSetExpiry, bI, c8_1,  ↓reduceIte, Bool.false_eq_true, reduceCtorEq, i10, i20, i30, i40]; done) | simp [mcSetExpiry, bI, c8_1, ]))] at hI
    exact end_rwi hx hb hr (by first | (simp only [mcSetExpiry, bI, c8_1,  ↓reduceIte, Bool.false_eq_true, reduceCtorEq, i10, i20, i30, i40]; done) | simp [mcSetExpiry, bI, c8_1, ]) hI hS dX4_setExpiry_35 hlk

set_option maxHeartbeats 4000000 in
set_option maxRecDepth 100000 in
theorem c_X4_install (l : Launch) (D : va_G) (cy : Nat → ClassId) (h0 : Nat) (q : Nat → Nat) (A : Nat → Nat → Int32) (S : Nat → Int32) (x : Int32) (name : Int32) (nk : Nat) (hnk : nk ≤ 8) (hck : S 0 = nI nk) (nb : Nat) (hnb : nb ≤ 24) (hcb : S 1 = nI nb) (nm : Nat) (hnm : nm ≤ 3) (hcm : S 2 = nI nm) (htn : ∀ b, b < nb → ∃ t, t < 5 ∧ A 6 b = nI t) : Met l yX4_install wsX4_install (rmO 8 156) (va_Pc [.ref (q 0), .int x, .int name] (pI D cy h0 (wM cy q A S))) (rwI (if mcInstall A S x name nk nb nm = 0 then miX A S x name nk nb else 0) D cy h0 (wM cy q A (uS S 5 (mcInstall A S x name nk nb nm))) (qA 18 q)) 0 0 (qA 18 q) := by
  refine Met.ofW (cc := cX4_install) (maxL := 4) (ret := (some .int)) (by decide) rfl ?_
  intro p e s m args below meth c s₁ B hml hv
  obtain ⟨rfl, hI⟩ := hv
  have hx := B.exec
  have hb := B.bytes
  have hr := B.returns
  have hts := atoms_spec (ws := wsX4_install) B.pre
  have hown : s.vm.findClass RX4 = some m.cls := findClass_of_methodNamed B.named
  have hlk := B.notSynchronized
  have hI : IH D cy h0 (wM cy q A S) s s.heap := hI
  have hG := hI.1
  have hqA := hA_M hI
  have hh0 : h0 ≤ s.heap.size := hI.1.2.2.2
  have hS : va_S nof s.heap s.heap [] := va_S.rf
  have hi4 : ∀ w ∈ wsX40, w ∈ wsX4_install := by decide +kernel
  have hl := lv_entry ([.ref (q 0), .int x, .int name]) (n := 4) (Nat.le_of_ble_eq_true rfl)
  rw [lg_entry_eq]
  generalize (lg_sl ([.ref (q 0), .int x, .int name]) ++ List.replicate (4 - (lg_sl ([.ref (q 0), .int x, .int name])).length) Slot.unset).toArray = ls at hl ⊢
  have hl : lv_has ls 4 [(0, .ref (q 0)), (1, .int x), (2, .int name)] := hl
  refine lv_aload_n hx hb dX4_install_0 rfl (lv_at hl 0 rfl) ?_
  refine lv_iload_n hx hb dX4_install_1 rfl (lv_at hl 1 rfl) ?_
  have hS := hS.mono (B := qA 18 q) (fun _ h => h.elim)
  refine rw_i (w' := wM cy q A (uS S 5 (bI (noR x nm)))) (va_runV (As := [.int x]) (rest := []) ⟨hx, hb, hml, hown, hts⟩ (c_X4_isNoMirror l D cy h0 q A S x nm hnm hcm) (cwV 1 hts gX4_install_X4_isNoMirror rfl rfl rfl (by decide +kernel) ⟨Nat.le_of_ble_eq_true rfl, Nat.le_of_ble_eq_true rfl⟩) (hI.preV (k0 := 0) rfl rfl) rfl rfl hl.1 rfl (lv_room (Nat.le_of_ble_eq_true rfl)) dX4_install_2 ⟨Nat.le_of_ble_eq_true rfl, Nat.le_of_ble_eq_true rfl⟩) hI hS (fun _ h => h) hqA (fun H locs hI hS => ?_)
  refine r_ifne_b (tgt := 39) hx hb dX4_install_5 (by decide) (fun c5_1 => ?_) (fun c5_1 => ?_)
  · refine lv_iconst (v := 0) hx hb dX4_install_39 (by decide) ?_
    rw [show wM cy q A (uS S 5 (bI (noR x nm))) = wM cy q A (uS S 5 (mcInstall A S x name nk nb nm)) from (wM_A (by first | rfl | (simp only [miX, mcInstall, bI, c5_1,  ↓reduceIte, Bool.false_eq_true, reduceCtorEq, i10, i20, i30, i40]; done) | simp [miX, mcInstall, bI, c5_1, ]) (by first | rfl | (simp only [miX, mcInstall, bI, c5_1,  ↓reduceIte, Bool.false_eq_true, reduceCtorEq, i10, i20, i30, i40]; done) | simp [miX, mcInstall, bI, c5_1, ]))] at hI
    exact end_rwi hx hb hr (by first | (simp only [miX, mcInstall, bI, c5_1,  ↓reduceIte, Bool.false_eq_true, reduceCtorEq, i10, i20, i30, i40]; done) | simp [miX, mcInstall, bI, c5_1, ]) hI hS dX4_install_40 hlk
  · obtain ⟨hj_x, hk_x⟩ := noR_c (by omega) c5_1
    refine lv_aload_n hx hb dX4_install_8 rfl (lv_at hl 0 rfl) ?_
    refine lv_iload_n hx hb dX4_install_9 rfl (lv_at hl 2 rfl) ?_
    refine ro_i (va_runS (As := [.int name]) (rest := [.ref (q 0)]) ⟨hx, hb, hml, hown, hts⟩ (c_X4_isNoName l name) (va_cwS 1 hts gX4_install_X4_isNoName rfl rfl rfl (by decide +kernel) ⟨Nat.le_of_ble_eq_true rfl, Nat.le_of_ble_eq_true rfl⟩) preT rfl rfl hl.1 rfl (lv_room (Nat.le_of_ble_eq_true rfl)) dX4_install_10 ⟨Nat.le_of_ble_eq_true rfl, Nat.le_of_ble_eq_true rfl⟩) hI hS (fun H locs hI hS => ?_)
    refine r_ifeq_b (tgt := 20) hx hb dX4_install_13 (by decide) (fun c13_2 => ?_) (fun c13_2 => ?_)
    · obtain ⟨hj_name, hk_name⟩ := noR_c (by omega) c13_2
      refine lv_aload_n hx hb dX4_install_20 rfl (lv_at hl 0 rfl) ?_
      refine lv_iload_n hx hb dX4_install_21 rfl (lv_at hl 1 rfl) ?_
      refine ro_i (va_runV (As := [.int x]) (rest := [.ref (q 0)]) ⟨hx, hb, hml, hown, hts⟩ (c_X4_isOld l D cy h0 q A (uS S 5 (bI (noR x nm))) x (ix x) (by omega) hk_x) (cwV 1 hts gX4_install_X4_isOld rfl rfl rfl (by decide +kernel) ⟨Nat.le_of_ble_eq_true rfl, Nat.le_of_ble_eq_true rfl⟩) (hI.preV (k0 := 0) rfl rfl) rfl rfl hl.1 rfl (lv_room (Nat.le_of_ble_eq_true rfl)) dX4_install_22 ⟨Nat.le_of_ble_eq_true rfl, Nat.le_of_ble_eq_true rfl⟩) hI hS (fun H locs hI hS => ?_)
      rw [oldB_5]
      refine r_ifeq_b (tgt := 32) hx hb dX4_install_25 (by decide) (fun c25_3 => ?_) (fun c25_3 => ?_)
      · refine lv_iconst (v := 0) hx hb dX4_install_32 (by decide) ?_
        refine rw_i (w' := wM cy q A (uS (uS S 5 (bI (noR x nm))) 5 0)) (va_runV (As := [.int 0]) (rest := []) ⟨hx, hb, hml, hown, hts⟩ (c_X4_fails l D cy h0 q A (uS S 5 (bI (noR x nm))) 0) (cwV 1 hts gX4_install_X4_fails rfl rfl rfl (by decide +kernel) ⟨Nat.le_of_ble_eq_true rfl, Nat.le_of_ble_eq_true rfl⟩) (hI.preV (k0 := 0) rfl rfl) rfl rfl hl.1 rfl (lv_room (Nat.le_of_ble_eq_true rfl)) dX4_install_33 ⟨Nat.le_of_ble_eq_true rfl, Nat.le_of_ble_eq_true rfl⟩) hI hS (fun _ h => h) hqA (fun H locs hI hS => ?_)
        rw [uS_uS] at hI
        rw [show (bI (failsB 0)) = 0 from (by decide)]
        refine lv_if_eq (tgt := 41) hx hb dX4_install_36 (by decide) (fun c36_4 => ?_) (fun c36_4 => ?_)
        rotate_left
        · exact absurd c36_4 (by decide)
        refine lv_aload_n hx hb dX4_install_41 rfl (lv_at hl 0 rfl) ?_
        refine lv_iload_n hx hb dX4_install_42 rfl (lv_at hl 2 rfl) ?_
        refine lv_aload_n hx hb dX4_install_43 rfl (lv_at hl 0 rfl) ?_
        refine r_get (C := RX4) (T := TX4) (N := 23) (k := 17) (q0 := 0) (v := .ref (q 15)) hx hb hts hi4 hown hI rfl rfl (by decide) (hts (.fieldLink RX4 53 "BuildlotsModel" "listed" "[I") (List.mem_of_getElem? (i := 1) rfl)) rfl rfl dX4_install_44 ?_
        refine lv_iload_n hx hb dX4_install_47 rfl (lv_at hl 1 rfl) ?_
        refine r_iald (q0 := 15) (j := (ix x)) (n := 3) (f := (A 14)) hx hb hI rfl hk_x (by omega) (by decide) dX4_install_48 ?_
        refine lv_aload_n hx hb dX4_install_49 rfl (lv_at hl 0 rfl) ?_
        refine r_get (C := RX4) (T := TX4) (N := 23) (k := 18) (q0 := 0) (v := .ref (q 16)) hx hb hts hi4 hown hI rfl rfl (by decide) (hts (.fieldLink RX4 56 "BuildlotsModel" "listRecalled" "[I") (List.mem_of_getElem? (i := 2) rfl)) rfl rfl dX4_install_50 ?_
        refine lv_iload_n hx hb dX4_install_53 rfl (lv_at hl 1 rfl) ?_
        refine r_iald (q0 := 16) (j := (ix x)) (n := 3) (f := (A 15)) hx hb hI rfl hk_x (by omega) (by decide) dX4_install_54 ?_
        refine lv_iconst (v := (-1)) hx hb dX4_install_55 (by decide) ?_
        refine lv_ixor hx hb dX4_install_56 ?_
        refine lv_iand hx hb dX4_install_57 ?_
        refine lv_aload_n hx hb dX4_install_58 rfl (lv_at hl 0 rfl) ?_
        refine ro_i (va_runV (As := []) (rest := [.int ((A 14 (ix x)) &&& ((A 15 (ix x)) ^^^ (-1))), .int name, .ref (q 0)]) ⟨hx, hb, hml, hown, hts⟩ (c_X4_trusted l D cy h0 q A (uS S 5 0) nk hnk hck nb hnb hcb htn) (cwV 0 hts gX4_install_X4_trusted rfl rfl rfl (by decide +kernel) ⟨Nat.le_of_ble_eq_true rfl, Nat.le_of_ble_eq_true rfl⟩) (hI.preV (k0 := 0) rfl rfl) rfl rfl hl.1 rfl (lv_room (Nat.le_of_ble_eq_true rfl)) dX4_install_59 ⟨Nat.le_of_ble_eq_true rfl, Nat.le_of_ble_eq_true rfl⟩) hI hS (fun H locs hI hS => ?_)
        rw [twF_5]
        refine lv_iand hx hb dX4_install_62 ?_
        refine ro_i (va_runV (As := [.int name, .int (((A 14 (ix x)) &&& ((A 15 (ix x)) ^^^ (-1))) &&& (twF A S (-1) nk nb))]) (rest := []) ⟨hx, hb, hml, hown, hts⟩ (c_X4_greatest l D cy h0 q A (uS S 5 0) name (((A 14 (ix x)) &&& ((A 15 (ix x)) ^^^ (-1))) &&& (twF A S (-1) nk nb)) nb hnb hcb) (cwV 2 hts gX4_install_X4_greatest rfl rfl rfl (by decide +kernel) ⟨Nat.le_of_ble_eq_true rfl, Nat.le_of_ble_eq_true rfl⟩) (hI.preV (k0 := 0) rfl rfl) rfl rfl hl.1 rfl (lv_room (Nat.le_of_ble_eq_true rfl)) dX4_install_63 ⟨Nat.le_of_ble_eq_true rfl, Nat.le_of_ble_eq_true rfl⟩) hI hS (fun H locs hI hS => ?_)
        refine lv_istore_n (lv' := [(3, .int (grF (A 6) name (((A 14 (ix x)) &&& ((A 15 (ix x)) ^^^ (-1))) &&& (twF A S (-1) nk nb)) nb)), (0, .ref (q 0)), (1, .int x), (2, .int name)]) hx hb dX4_install_66 rfl hl (by decide) rfl (fun ls hl => ?_)
        refine lv_aload_n hx hb dX4_install_67 rfl (lv_at hl 1 rfl) ?_
        refine lv_iload_n hx hb dX4_install_68 rfl (lv_at hl 0 rfl) ?_
        refine lv_if_ge (tgt := 76) hx hb dX4_install_69 (by decide) (fun c69_5 => ?_) (fun c69_5 => ?_)
        · refine lv_iconst (v := 0) hx hb dX4_install_76 (by decide) ?_
          refine rw_i (w' := wM cy q A (uS (uS S 5 0) 5 0)) (va_runV (As := [.int 0]) (rest := []) ⟨hx, hb, hml, hown, hts⟩ (c_X4_fails l D cy h0 q A (uS S 5 0) 0) (cwV 1 hts gX4_install_X4_fails rfl rfl rfl (by decide +kernel) ⟨Nat.le_of_ble_eq_true rfl, Nat.le_of_ble_eq_true rfl⟩) (hI.preV (k0 := 0) rfl rfl) rfl rfl hl.1 rfl (lv_room (Nat.le_of_ble_eq_true rfl)) dX4_install_77 ⟨Nat.le_of_ble_eq_true rfl, Nat.le_of_ble_eq_true rfl⟩) hI hS (fun _ h => h) hqA (fun H locs hI hS => ?_)
          rw [uS_uS] at hI
          rw [show (bI (failsB 0)) = 0 from (by decide)]
          refine lv_if_eq (tgt := 87) hx hb dX4_install_80 (by decide) (fun c80_6 => ?_) (fun c80_6 => ?_)
          rotate_left
          · exact absurd c80_6 (by decide)
          refine lv_iload_n hx hb dX4_install_87 rfl (lv_at hl 0 rfl) ?_
          rw [show wM cy q A (uS S 5 0) = wM cy q A (uS S 5 (mcInstall A S x name nk nb nm)) from (wM_A (by first | rfl | (simp only [miX, mcInstall, bI, c5_1, c13_2, c25_3, c69_5,  ↓reduceIte, Bool.false_eq_true, reduceCtorEq, i10, i20, i30, i40]; done) | simp [miX, mcInstall, bI, c5_1, c13_2, c25_3, c69_5, ]) (by first | rfl | (simp only [miX, mcInstall, bI, c5_1, c13_2, c25_3, c69_5,  ↓reduceIte, Bool.false_eq_true, reduceCtorEq, i10, i20, i30, i40]; done) | simp [miX, mcInstall, bI, c5_1, c13_2, c25_3, c69_5, ]))] at hI
          exact end_rwi hx hb hr (by first | (simp only [miX, mcInstall, bI, c5_1, c13_2, c25_3, c69_5,  ↓reduceIte, Bool.false_eq_true, reduceCtorEq, i10, i20, i30, i40]; done) | simp [miX, mcInstall, bI, c5_1, c13_2, c25_3, c69_5, ]) hI hS dX4_install_88 hlk
        · refine lv_iconst (v := 4) hx hb dX4_install_72 (by decide) ?_
          refine lv_goto (tgt := 77) hx hb dX4_install_73 (by decide) ?_
          refine rw_i (w' := wM cy q A (uS (uS S 5 0) 5 4)) (va_runV (As := [.int 4]) (rest := []) ⟨hx, hb, hml, hown, hts⟩ (c_X4_fails l D cy h0 q A (uS S 5 0) 4) (cwV 1 hts gX4_install_X4_fails rfl rfl rfl (by decide +kernel) ⟨Nat.le_of_ble_eq_true rfl, Nat.le_of_ble_eq_true rfl⟩) (hI.preV (k0 := 0) rfl rfl) rfl rfl hl.1 rfl (lv_room (Nat.le_of_ble_eq_true rfl)) dX4_install_77 ⟨Nat.le_of_ble_eq_true rfl, Nat.le_of_ble_eq_true rfl⟩) hI hS (fun _ h => h) hqA (fun H locs hI hS => ?_)
          rw [uS_uS] at hI
          rw [show (bI (failsB 4)) = 1 from (by decide)]
          refine lv_if_eq (tgt := 87) hx hb dX4_install_80 (by decide) (fun c80_7 => ?_) (fun c80_7 => ?_)
          · exact absurd c80_7 (by decide)
          refine lv_iconst (v := 0) hx hb dX4_install_83 (by decide) ?_
          refine lv_goto (tgt := 88) hx hb dX4_install_84 (by decide) ?_
          rw [show wM cy q A (uS S 5 4) = wM cy q A (uS S 5 (mcInstall A S x name nk nb nm)) from (wM_A (by first | rfl | (simp only [miX, mcInstall, bI, c5_1, c13_2, c25_3, c69_5,  ↓reduceIte, Bool.false_eq_true, reduceCtorEq, i10, i20, i30, i40]; done) | simp [miX, mcInstall, bI, c5_1, c13_2, c25_3, c69_5, ]) (by first | rfl | (simp only [miX, mcInstall, bI, c5_1, c13_2, c25_3, c69_5,  ↓reduceIte, Bool.false_eq_true, reduceCtorEq, i10, i20, i30, i40]; done) | simp [miX, mcInstall, bI, c5_1, c13_2, c25_3, c69_5, ]))] at hI
          exact end_rwi hx hb hr (by first | (simp only [miX, mcInstall, bI, c5_1, c13_2, c25_3, c69_5,  ↓reduceIte, Bool.false_eq_true, reduceCtorEq, i10, i20, i30, i40]; done) | simp [miX, mcInstall, bI, c5_1, c13_2, c25_3, c69_5, ]) hI hS dX4_install_88 hlk
      · refine lv_iconst (v := 3) hx hb dX4_install_28 (by decide) ?_
        refine lv_goto (tgt := 33) hx hb dX4_install_29 (by decide) ?_
        refine rw_i (w' := wM cy q A (uS (uS S 5 (bI (noR x nm))) 5 3)) (va_runV (As := [.int 3]) (rest := []) ⟨hx, hb, hml, hown, hts⟩ (c_X4_fails l D cy h0 q A (uS S 5 (bI (noR x nm))) 3) (cwV 1 hts gX4_install_X4_fails rfl rfl rfl (by decide +kernel) ⟨Nat.le_of_ble_eq_true rfl, Nat.le_of_ble_eq_true rfl⟩) (hI.preV (k0 := 0) rfl rfl) rfl rfl hl.1 rfl (lv_room (Nat.le_of_ble_eq_true rfl)) dX4_install_33 ⟨Nat.le_of_ble_eq_true rfl, Nat.le_of_ble_eq_true rfl⟩) hI hS (fun _ h => h) hqA (fun H locs hI hS => ?_)
        rw [uS_uS] at hI
        rw [show (bI (failsB 3)) = 1 from (by decide)]
        refine lv_if_eq (tgt := 41) hx hb dX4_install_36 (by decide) (fun c36_8 => ?_) (fun c36_8 => ?_)
        · exact absurd c36_8 (by decide)
        refine lv_iconst (v := 0) hx hb dX4_install_39 (by decide) ?_
        rw [show wM cy q A (uS S 5 3) = wM cy q A (uS S 5 (mcInstall A S x name nk nb nm)) from (wM_A (by first | rfl | (simp only [miX, mcInstall, bI, c5_1, c13_2, c25_3,  ↓reduceIte, Bool.false_eq_true, reduceCtorEq, i10, i20, i30, i40]; done) | simp [miX, mcInstall, bI, c5_1, c13_2, c25_3, ]) (by first | rfl | (simp only [miX, mcInstall, bI, c5_1, c13_2, c25_3,  ↓reduceIte, Bool.false_eq_true, reduceCtorEq, i10, i20, i30, i40]; done) | simp [miX, mcInstall, bI, c5_1, c13_2, c25_3, ]))] at hI
        exact end_rwi hx hb hr (by first | (simp only [miX, mcInstall, bI, c5_1, c13_2, c25_3,  ↓reduceIte, Bool.false_eq_true, reduceCtorEq, i10, i20, i30, i40]; done) | simp [miX, mcInstall, bI, c5_1, c13_2, c25_3, ]) hI hS dX4_install_40 hlk
    · refine lv_iconst (v := 2) hx hb dX4_install_16 (by decide) ?_
      refine lv_goto (tgt := 33) hx hb dX4_install_17 (by decide) ?_
      refine rw_i (w' := wM cy q A (uS (uS S 5 (bI (noR x nm))) 5 2)) (va_runV (As := [.int 2]) (rest := []) ⟨hx, hb, hml, hown, hts⟩ (c_X4_fails l D cy h0 q A (uS S 5 (bI (noR x nm))) 2) (cwV 1 hts gX4_install_X4_fails rfl rfl rfl (by decide +kernel) ⟨Nat.le_of_ble_eq_true rfl, Nat.le_of_ble_eq_true rfl⟩) (hI.preV (k0 := 0) rfl rfl) rfl rfl hl.1 rfl (lv_room (Nat.le_of_ble_eq_true rfl)) dX4_install_33 ⟨Nat.le_of_ble_eq_true rfl, Nat.le_of_ble_eq_true rfl⟩) hI hS (fun _ h => h) hqA (fun H locs hI hS => ?_)
      rw [uS_uS] at hI
      rw [show (bI (failsB 2)) = 1 from (by decide)]
      refine lv_if_eq (tgt := 41) hx hb dX4_install_36 (by decide) (fun c36_9 => ?_) (fun c36_9 => ?_)
      · exact absurd c36_9 (by decide)
      refine lv_iconst (v := 0) hx hb dX4_install_39 (by decide) ?_
      rw [show wM cy q A (uS S 5 2) = wM cy q A (uS S 5 (mcInstall A S x name nk nb nm)) from (wM_A (by first | rfl | (simp only [miX, mcInstall, bI, c5_1, c13_2,  ↓reduceIte, Bool.false_eq_true, reduceCtorEq, i10, i20, i30, i40]; done) | simp [miX, mcInstall, bI, c5_1, c13_2, ]) (by first | rfl | (simp only [miX, mcInstall, bI, c5_1, c13_2,  ↓reduceIte, Bool.false_eq_true, reduceCtorEq, i10, i20, i30, i40]; done) | simp [miX, mcInstall, bI, c5_1, c13_2, ]))] at hI
      exact end_rwi hx hb hr (by first | (simp only [miX, mcInstall, bI, c5_1, c13_2,  ↓reduceIte, Bool.false_eq_true, reduceCtorEq, i10, i20, i30, i40]; done) | simp [miX, mcInstall, bI, c5_1, c13_2, ]) hI hS dX4_install_40 hlk

set_option maxHeartbeats 4000000 in
set_option maxRecDepth 100000 in
theorem c_X4_pass (l : Launch) (D : va_G) (cy : Nat → ClassId) (h0 : Nat) (q : Nat → Nat) (A : Nat → Nat → Int32) (S : Nat → Int32) (d : Int32) (nk : Nat) (hnk : nk ≤ 8) (hck : S 0 = nI nk) (nb : Nat) (hnb : nb ≤ 24) (hcb : S 1 = nI nb) (htn : ∀ b, b < nb → ∃ t, t < 5 ∧ A 6 b = nI t) : Met l yX4_pass wsX4_pass (rmO 8 156) (va_Pc [.ref (q 0), .int d] (pI D cy h0 (wM cy q A S))) (rwI (if mcPass S d = 0 then btF (twF A S (-1) nk nb &&& (twF A (uS (uS S 5 0) 4 (S 4 + d)) (-1) nk nb ^^^ (-1))) 24 else 0) D cy h0 (wM cy q A (if mcPass S d = 0 then uS (uS S 5 0) 4 (S 4 + d) else uS S 5 (mcPass S d))) (qA 18 q)) 0 0 (qA 18 q) := by
  refine Met.ofW (cc := cX4_pass) (maxL := 3) (ret := (some .int)) (by decide) rfl ?_
  intro p e s m args below meth c s₁ B hml hv
  obtain ⟨rfl, hI⟩ := hv
  have hx := B.exec
  have hb := B.bytes
  have hr := B.returns
  have hts := atoms_spec (ws := wsX4_pass) B.pre
  have hown : s.vm.findClass RX4 = some m.cls := findClass_of_methodNamed B.named
  have hlk := B.notSynchronized
  have hI : IH D cy h0 (wM cy q A S) s s.heap := hI
  have hG := hI.1
  have hqA := hA_M hI
  have hh0 : h0 ≤ s.heap.size := hI.1.2.2.2
  have hS : va_S nof s.heap s.heap [] := va_S.rf
  have hi4 : ∀ w ∈ wsX40, w ∈ wsX4_pass := by decide +kernel
  have hl := lv_entry ([.ref (q 0), .int d]) (n := 3) (Nat.le_of_ble_eq_true rfl)
  rw [lg_entry_eq]
  generalize (lg_sl ([.ref (q 0), .int d]) ++ List.replicate (3 - (lg_sl ([.ref (q 0), .int d])).length) Slot.unset).toArray = ls at hl ⊢
  have hl : lv_has ls 3 [(0, .ref (q 0)), (1, .int d)] := hl
  refine lv_aload_n hx hb dX4_pass_0 rfl (lv_at hl 0 rfl) ?_
  refine lv_iload_n hx hb dX4_pass_1 rfl (lv_at hl 1 rfl) ?_
  refine lv_iconst (v := 1) hx hb dX4_pass_2 (by decide) ?_
  refine lv_bipush (v := 60) hx hb dX4_pass_3 (by decide) ?_
  refine ro_i (va_runS (As := [.int d, .int 1, .int 60]) (rest := [.ref (q 0)]) ⟨hx, hb, hml, hown, hts⟩ (c_X4_in l d 1 60) (va_cwS 3 hts gX4_pass_X4_in rfl rfl rfl (by decide +kernel) ⟨Nat.le_of_ble_eq_true rfl, Nat.le_of_ble_eq_true rfl⟩) preT rfl rfl hl.1 rfl (lv_room (Nat.le_of_ble_eq_true rfl)) dX4_pass_5 ⟨Nat.le_of_ble_eq_true rfl, Nat.le_of_ble_eq_true rfl⟩) hI hS (fun H locs hI hS => ?_)
  refine r_ifeq_b (tgt := 27) hx hb dX4_pass_8 (by decide) (fun c8_1 => ?_) (fun c8_1 => ?_)
  · refine lv_iconst (v := 1) hx hb dX4_pass_27 (by decide) ?_
    have hS := hS.mono (B := qA 18 q) (fun _ h => h.elim)
    refine rw_i (w' := wM cy q A (uS S 5 1)) (va_runV (As := [.int 1]) (rest := []) ⟨hx, hb, hml, hown, hts⟩ (c_X4_fails l D cy h0 q A S 1) (cwV 1 hts gX4_pass_X4_fails rfl rfl rfl (by decide +kernel) ⟨Nat.le_of_ble_eq_true rfl, Nat.le_of_ble_eq_true rfl⟩) (hI.preV (k0 := 0) rfl rfl) rfl rfl hl.1 rfl (lv_room (Nat.le_of_ble_eq_true rfl)) dX4_pass_28 ⟨Nat.le_of_ble_eq_true rfl, Nat.le_of_ble_eq_true rfl⟩) hI hS (fun _ h => h) hqA (fun H locs hI hS => ?_)
    rw [show (bI (failsB 1)) = 1 from (by decide)]
    refine lv_if_eq (tgt := 36) hx hb dX4_pass_31 (by decide) (fun c31_2 => ?_) (fun c31_2 => ?_)
    · exact absurd c31_2 (by decide)
    refine lv_iconst (v := 0) hx hb dX4_pass_34 (by decide) ?_
    rw [show wM cy q A (uS S 5 1) = wM cy q A (if mcPass S d = 0 then uS (uS S 5 0) 4 (S 4 + d) else uS S 5 (mcPass S d)) from (wM_A (by first | rfl | (simp only [mcPass, bI, c8_1,  ↓reduceIte, Bool.false_eq_true, reduceCtorEq, i10, i20, i30, i40]; done) | simp [mcPass, bI, c8_1, ]) (by first | rfl | (simp only [mcPass, bI, c8_1,  ↓reduceIte, Bool.false_eq_true, reduceCtorEq, i10, i20, i30, i40]; done) | simp [mcPass, bI, c8_1, ]))] at hI
    exact end_rwi hx hb hr (by first | (simp only [mcPass, bI, c8_1,  ↓reduceIte, Bool.false_eq_true, reduceCtorEq, i10, i20, i30, i40]; done) | simp [mcPass, bI, c8_1, ]) hI hS dX4_pass_35 hlk
  · refine lv_aload_n hx hb dX4_pass_11 rfl (lv_at hl 0 rfl) ?_
    refine r_get (C := RX4) (T := TX4) (N := 23) (k := 21) (q0 := 0) (v := .int (S 4)) hx hb hts hi4 hown hI rfl rfl (by decide) (hts (.fieldLink RX4 86 "BuildlotsModel" "day" "I") (List.mem_of_getElem? (i := 1) rfl)) rfl rfl dX4_pass_12 ?_
    refine lv_iload_n hx hb dX4_pass_15 rfl (lv_at hl 1 rfl) ?_
    refine lv_iadd hx hb dX4_pass_16 ?_
    refine lv_sipush (v := 999) hx hb dX4_pass_17 (by decide) ?_
    refine lv_icmp_gt (tgt := 27) hx hb dX4_pass_20 (by decide) (fun c20_3 => ?_) (fun c20_3 => ?_)
    · refine lv_iconst (v := 1) hx hb dX4_pass_27 (by decide) ?_
      have hS := hS.mono (B := qA 18 q) (fun _ h => h.elim)
      refine rw_i (w' := wM cy q A (uS S 5 1)) (va_runV (As := [.int 1]) (rest := []) ⟨hx, hb, hml, hown, hts⟩ (c_X4_fails l D cy h0 q A S 1) (cwV 1 hts gX4_pass_X4_fails rfl rfl rfl (by decide +kernel) ⟨Nat.le_of_ble_eq_true rfl, Nat.le_of_ble_eq_true rfl⟩) (hI.preV (k0 := 0) rfl rfl) rfl rfl hl.1 rfl (lv_room (Nat.le_of_ble_eq_true rfl)) dX4_pass_28 ⟨Nat.le_of_ble_eq_true rfl, Nat.le_of_ble_eq_true rfl⟩) hI hS (fun _ h => h) hqA (fun H locs hI hS => ?_)
      rw [show (bI (failsB 1)) = 1 from (by decide)]
      refine lv_if_eq (tgt := 36) hx hb dX4_pass_31 (by decide) (fun c31_4 => ?_) (fun c31_4 => ?_)
      · exact absurd c31_4 (by decide)
      refine lv_iconst (v := 0) hx hb dX4_pass_34 (by decide) ?_
      rw [show wM cy q A (uS S 5 1) = wM cy q A (if mcPass S d = 0 then uS (uS S 5 0) 4 (S 4 + d) else uS S 5 (mcPass S d)) from (wM_A (by first | rfl | (simp only [mcPass, bI, c8_1, c20_3,  ↓reduceIte, Bool.false_eq_true, reduceCtorEq, i10, i20, i30, i40]; done) | simp [mcPass, bI, c8_1, c20_3, ]) (by first | rfl | (simp only [mcPass, bI, c8_1, c20_3,  ↓reduceIte, Bool.false_eq_true, reduceCtorEq, i10, i20, i30, i40]; done) | simp [mcPass, bI, c8_1, c20_3, ]))] at hI
      exact end_rwi hx hb hr (by first | (simp only [mcPass, bI, c8_1, c20_3,  ↓reduceIte, Bool.false_eq_true, reduceCtorEq, i10, i20, i30, i40]; done) | simp [mcPass, bI, c8_1, c20_3, ]) hI hS dX4_pass_35 hlk
    · refine lv_iconst (v := 0) hx hb dX4_pass_23 (by decide) ?_
      refine lv_goto (tgt := 28) hx hb dX4_pass_24 (by decide) ?_
      have hS := hS.mono (B := qA 18 q) (fun _ h => h.elim)
      refine rw_i (w' := wM cy q A (uS S 5 0)) (va_runV (As := [.int 0]) (rest := []) ⟨hx, hb, hml, hown, hts⟩ (c_X4_fails l D cy h0 q A S 0) (cwV 1 hts gX4_pass_X4_fails rfl rfl rfl (by decide +kernel) ⟨Nat.le_of_ble_eq_true rfl, Nat.le_of_ble_eq_true rfl⟩) (hI.preV (k0 := 0) rfl rfl) rfl rfl hl.1 rfl (lv_room (Nat.le_of_ble_eq_true rfl)) dX4_pass_28 ⟨Nat.le_of_ble_eq_true rfl, Nat.le_of_ble_eq_true rfl⟩) hI hS (fun _ h => h) hqA (fun H locs hI hS => ?_)
      rw [show (bI (failsB 0)) = 0 from (by decide)]
      refine lv_if_eq (tgt := 36) hx hb dX4_pass_31 (by decide) (fun c31_5 => ?_) (fun c31_5 => ?_)
      rotate_left
      · exact absurd c31_5 (by decide)
      refine lv_aload_n hx hb dX4_pass_36 rfl (lv_at hl 0 rfl) ?_
      refine ro_i (va_runV (As := []) (rest := []) ⟨hx, hb, hml, hown, hts⟩ (c_X4_trusted l D cy h0 q A (uS S 5 0) nk hnk hck nb hnb hcb htn) (cwV 0 hts gX4_pass_X4_trusted rfl rfl rfl (by decide +kernel) ⟨Nat.le_of_ble_eq_true rfl, Nat.le_of_ble_eq_true rfl⟩) (hI.preV (k0 := 0) rfl rfl) rfl rfl hl.1 rfl (lv_room (Nat.le_of_ble_eq_true rfl)) dX4_pass_37 ⟨Nat.le_of_ble_eq_true rfl, Nat.le_of_ble_eq_true rfl⟩) hI hS (fun H locs hI hS => ?_)
      rw [twF_5]
      refine lv_istore_n (lv' := [(2, .int (twF A S (-1) nk nb)), (0, .ref (q 0)), (1, .int d)]) hx hb dX4_pass_40 rfl hl (by decide) rfl (fun ls hl => ?_)
      refine lv_aload_n hx hb dX4_pass_41 rfl (lv_at hl 1 rfl) ?_
      refine lv_dup hx hb dX4_pass_42 rfl ?_
      refine r_get (C := RX4) (T := TX4) (N := 23) (k := 21) (q0 := 0) (v := .int (S 4)) hx hb hts hi4 hown hI rfl rfl (by decide) (hts (.fieldLink RX4 86 "BuildlotsModel" "day" "I") (List.mem_of_getElem? (i := 1) rfl)) rfl rfl dX4_pass_43 ?_
      refine lv_iload_n hx hb dX4_pass_46 rfl (lv_at hl 2 rfl) ?_
      refine lv_iadd hx hb dX4_pass_47 ?_
      refine r_put (w' := wM cy q A (uS (uS S 5 0) 4 ((S 4) + d))) (C := RX4) (T := TX4) (N := 23) (k := 21) (q0 := 0) (ty := .int) (v := .int ((S 4) + d)) hx hb hts hi4 tyX4_ok nmX4 hown hI hS hqA hh0 (qA_M hI) rfl rfl (by decide) (hts (.fieldLink RX4 86 "BuildlotsModel" "day" "I") (List.mem_of_getElem? (i := 1) rfl)) rfl rfl (by decide +kernel) rfl rfl (Nat.le_of_ble_eq_true rfl) dX4_pass_48 rfl (fun H locs hI hS => ?_)
      refine lv_iload_n hx hb dX4_pass_51 rfl (lv_at hl 0 rfl) ?_
      refine lv_aload_n hx hb dX4_pass_52 rfl (lv_at hl 1 rfl) ?_
      refine ro_i (va_runV (As := []) (rest := [.int (twF A S (-1) nk nb)]) ⟨hx, hb, hml, hown, hts⟩ (c_X4_trusted l D cy h0 q A (uS (uS S 5 0) 4 ((S 4) + d)) nk hnk hck nb hnb hcb htn) (cwV 0 hts gX4_pass_X4_trusted rfl rfl rfl (by decide +kernel) ⟨Nat.le_of_ble_eq_true rfl, Nat.le_of_ble_eq_true rfl⟩) (hI.preV (k0 := 0) rfl rfl) rfl rfl hl.1 rfl (lv_room (Nat.le_of_ble_eq_true rfl)) dX4_pass_53 ⟨Nat.le_of_ble_eq_true rfl, Nat.le_of_ble_eq_true rfl⟩) hI hS (fun H locs hI hS => ?_)
      refine lv_iconst (v := (-1)) hx hb dX4_pass_56 (by decide) ?_
      refine lv_ixor hx hb dX4_pass_57 ?_
      refine lv_iand hx hb dX4_pass_58 ?_
      refine ro_i (va_runS (As := [.int ((twF A S (-1) nk nb) &&& ((twF A (uS (uS S 5 0) 4 ((S 4) + d)) (-1) nk nb) ^^^ (-1)))]) (rest := []) ⟨hx, hb, hml, hown, hts⟩ (c_X4_bits l ((twF A S (-1) nk nb) &&& ((twF A (uS (uS S 5 0) 4 ((S 4) + d)) (-1) nk nb) ^^^ (-1)))) (va_cwS 1 hts gX4_pass_X4_bits rfl rfl rfl (by decide +kernel) ⟨Nat.le_of_ble_eq_true rfl, Nat.le_of_ble_eq_true rfl⟩) preT rfl rfl hl.1 rfl (lv_room (Nat.le_of_ble_eq_true rfl)) dX4_pass_59 ⟨Nat.le_of_ble_eq_true rfl, Nat.le_of_ble_eq_true rfl⟩) hI hS (fun H locs hI hS => ?_)
      rw [show wM cy q A (uS (uS S 5 0) 4 ((S 4) + d)) = wM cy q A (if mcPass S d = 0 then uS (uS S 5 0) 4 (S 4 + d) else uS S 5 (mcPass S d)) from (wM_A (by first | rfl | (simp only [mcPass, bI, c8_1, c20_3,  ↓reduceIte, Bool.false_eq_true, reduceCtorEq, i10, i20, i30, i40]; done) | simp [mcPass, bI, c8_1, c20_3, ]) (by first | rfl | (simp only [mcPass, bI, c8_1, c20_3,  ↓reduceIte, Bool.false_eq_true, reduceCtorEq, i10, i20, i30, i40]; done) | simp [mcPass, bI, c8_1, c20_3, ]))] at hI
      exact end_rwi hx hb hr (by first | (simp only [mcPass, bI, c8_1, c20_3,  ↓reduceIte, Bool.false_eq_true, reduceCtorEq, i10, i20, i30, i40]; done) | simp [mcPass, bI, c8_1, c20_3, ]) hI hS dX4_pass_62 hlk

set_option maxHeartbeats 4000000 in
set_option maxRecDepth 100000 in
theorem c_X4_day (l : Launch) (D : va_G) (cy : Nat → ClassId) (h0 : Nat) (q : Nat → Nat) (A : Nat → Nat → Int32) (S : Nat → Int32) : Met l yX4_day wsX4_day (rmO 2 21) (va_Pc [.ref (q 0)] (pI D cy h0 (wM cy q A S))) (rwI (S 4) D cy h0 (wM cy q A (uS S 5 0)) (qA 18 q)) 0 0 (qA 18 q) := by
  refine Met.ofW (cc := cX4_day) (maxL := 1) (ret := (some .int)) (by decide) rfl ?_
  intro p e s m args below meth c s₁ B hml hv
  obtain ⟨rfl, hI⟩ := hv
  have hx := B.exec
  have hb := B.bytes
  have hr := B.returns
  have hts := atoms_spec (ws := wsX4_day) B.pre
  have hown : s.vm.findClass RX4 = some m.cls := findClass_of_methodNamed B.named
  have hlk := B.notSynchronized
  have hI : IH D cy h0 (wM cy q A S) s s.heap := hI
  have hG := hI.1
  have hqA := hA_M hI
  have hh0 : h0 ≤ s.heap.size := hI.1.2.2.2
  have hS : va_S nof s.heap s.heap [] := va_S.rf
  have hi4 : ∀ w ∈ wsX40, w ∈ wsX4_day := by decide +kernel
  have hl := lv_entry ([.ref (q 0)]) (n := 1) (Nat.le_of_ble_eq_true rfl)
  rw [lg_entry_eq]
  generalize (lg_sl ([.ref (q 0)]) ++ List.replicate (1 - (lg_sl ([.ref (q 0)])).length) Slot.unset).toArray = ls at hl ⊢
  have hl : lv_has ls 1 [(0, .ref (q 0))] := hl
  refine lv_aload_n hx hb dX4_day_0 rfl (lv_at hl 0 rfl) ?_
  refine lv_aload_n hx hb dX4_day_1 rfl (lv_at hl 0 rfl) ?_
  refine r_get (C := RX4) (T := TX4) (N := 23) (k := 21) (q0 := 0) (v := .int (S 4)) hx hb hts hi4 hown hI rfl rfl (by decide) (hts (.fieldLink RX4 86 "BuildlotsModel" "day" "I") (List.mem_of_getElem? (i := 1) rfl)) rfl rfl dX4_day_2 ?_
  have hS := hS.mono (B := qA 18 q) (fun _ h => h.elim)
  refine rw_i (w' := wM cy q A (uS S 5 0)) (va_runV (As := [.int (S 4)]) (rest := []) ⟨hx, hb, hml, hown, hts⟩ (c_X4_tells l D cy h0 q A S (S 4)) (cwV 1 hts gX4_day_X4_tells rfl rfl rfl (by decide +kernel) ⟨Nat.le_of_ble_eq_true rfl, Nat.le_of_ble_eq_true rfl⟩) (hI.preV (k0 := 0) rfl rfl) rfl rfl hl.1 rfl (lv_room (Nat.le_of_ble_eq_true rfl)) dX4_day_5 ⟨Nat.le_of_ble_eq_true rfl, Nat.le_of_ble_eq_true rfl⟩) hI hS (fun _ h => h) hqA (fun H locs hI hS => ?_)
  exact end_rwi hx hb hr rfl hI hS dX4_day_8 hlk

