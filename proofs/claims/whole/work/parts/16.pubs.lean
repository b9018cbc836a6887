/-! Buildlots' public methods. Rows written by wip/whole/gen/part16.py. -/
theorem lt_c {x : Int32} {a n : Nat} (hx : x = nI a) (h : x < nI n) (ha : a < 2 ^ 31) (hn : n < 2 ^ 31) : a < n := by rw [hx] at h; exact (nI_ltI ha hn).mp h
theorem nn_sh (x y : Int32) (h : 0 < y) : vf_n32 (FP.fdiv (FP.i2f x) (FP.i2f y)) := by
  refine nn32 (FP.Core.fdiv_out (FP.Core.i2f_fin x).notNaN (FP.Core.i2f_fin y) ?_)
  rw [FP.Core.zero_bits232]
  have h1 : y.toInt ≠ 0 := by
    have := Int32.lt_iff_toInt_lt.mp h
    simp at this
    omega
  have h2 := (FP.Core.i2f_big h1).1
  show ¬ (FP.Core.i2f y).toNat % 2 ^ 31 = 0
  omega
def exAddKey (S : Nat → Int32) (signer first last : Int32) : Option String := if inR signer 4 = true then (if first < S 1 then some xIAE else if last < first then some xIAE else if last ≤ 999 then (if S 3 < 8 then none else some xISE) else some xIAE) else some xIAE
def exLoseKey (S : Nat → Int32) (key : Int32) (nk : Nat) : Option String := if inR key nk = true then (if hold (S 2) key = true then some xISE else none) else some xIOB
def lkS (S : Nat → Int32) (key : Int32) : Nat → Int32 := uS S 2 (S 2 ||| ly key)
def lkA (A : Nat → Nat → Int32) (S : Nat → Int32) (key : Int32) (nk nb : Nat) : Nat → Nat → Int32 := uA A 10 (kvF A (lkS S key) (S 1) nk nb)
def exExtendKey (A : Nat → Nat → Int32) (S : Nat → Int32) (key last : Int32) (nk : Nat) : Option String := if inR key nk = true then (if last ≤ A 4 (ix key) then some xIAE else if last ≤ 999 then (if hold (S 2) key = true then some xISE else if S 1 ≤ A 4 (ix key) then none else some xISE) else some xIAE) else some xIOB
def exSetWeight (signer weight : Int32) : Option String := if inR signer 4 = true then (if weight < 0 then some xIAE else if weight ≤ 100 then none else some xIAE) else some xIAE
def exSetThr (name thr : Int32) : Option String := if inR name 5 = true then (if thr < 1 then some xIAE else if thr ≤ 400 then none else some xIAE) else some xIAE
def exBuild (A : Nat → Nat → Int32) (S : Nat → Int32) (name inputs : Int32) (nb : Nat) : Option String := if inR name 5 = true then (if inputs &&& ((ly (S 5) - 1) ^^^ (-1)) = 0 then (if inputs &&& rcF (A 7) (S 4) nb = 0 then (if S 5 < 24 then none else some xISE) else some xUOE) else some xIAE) else some xIAE
def exUses (b o : Int32) (nb : Nat) : Option String := if inR b nb = true then exR o nb xIOB else some xIOB
def nwX (A : Nat → Nat → Int32) (S : Nat → Int32) (name : Int32) (nb : Nat) : Int32 := nwF (A 5) name (tbF A nb &&& (rcF (A 7) (S 4) nb ^^^ (-1))) nb
def exNewest (A : Nat → Nat → Int32) (S : Nat → Int32) (name : Int32) (nb : Nat) : Option String := if inR name 5 = true then exF (nwX A S name nb) else some xIAE
def exAttest (A : Nat → Nat → Int32) (S : Nat → Int32) (b key : Int32) (nk nb : Nat) : Option String := if inR b nb = true then (if inR key nk = true then (if liveB A S (ix key) (S 1) = true then (if hold (A 9 (ix b)) key = true then some xISE else if hold (rcF (A 7) (S 4) nb) b = true then some xUOE else none) else some xISE) else some xIOB) else some xIOB
def atA (A : Nat → Nat → Int32) (b key : Int32) : Nat → Nat → Int32 := uA (uA A 9 (upd (A 9) (ix b) (A 9 (ix b) ||| ly key))) 10 (upd (A 10) (ix b) (A 10 (ix b) ||| ly (A 2 (ix key))))
def exVouches (b signer : Int32) (nb : Nat) : Option String := if inR b nb = true then exR signer 4 xIAE else some xIOB
def hgF (A : Nat → Nat → Int32) (x : Int32) (nk : Nat) : Nat → Int32
  | 0 => 0
  | k + 1 => if sufB A (A 10 k) k = true then (if sufB A (sgF (A 2) (A 9 k &&& x) nk) k = true then hgF A x nk k else hgF A x nk k + 1) else hgF A x nk k
def exRecall (S : Nat → Int32) (b : Int32) (nb : Nat) : Option String := if inR b nb = true then (if hold (S 4) b = true then some xISE else none) else some xIOB
def exLift (S : Nat → Int32) (b : Int32) (nb : Nat) : Option String := if inR b nb = true then (if hold (S 4) b = true then none else some xISE) else some xIOB
def exRebuild (A : Nat → Nat → Int32) (b : Int32) (nb : Nat) : Option String := if inR b nb = true then (if A 11 (ix b) < 99 then none else some xISE) else some xIOB
def rbA (A : Nat → Nat → Int32) (b r : Int32) : Nat → Nat → Int32 := if r = A 8 (ix b) then uA (uA A 11 (upd (A 11) (ix b) (A 11 (ix b) + 1))) 12 (upd (A 12) (ix b) (A 12 (ix b) + 1)) else uA A 11 (upd (A 11) (ix b) (A 11 (ix b) + 1))
def exShare (A : Nat → Nat → Int32) (b : Int32) (nb : Nat) : Option String := if inR b nb = true then (if 0 < A 11 (ix b) then none else some xNSE) else some xIOB
def exAddMirror (S : Nat → Int32) : Option String := if S 6 < 3 then none else some xISE
def upA (A : Nat → Nat → Int32) (S : Nat → Int32) (x : Int32) (nb : Nat) : Nat → Nat → Int32 := uA (uA A 14 (upd (A 14) (ix x) ((ly (S 5) - 1) &&& (rcF (A 7) (S 4) nb ^^^ (-1))))) 13 (upd (A 13) (ix x) (S 1))
def exSetExpiry (d : Int32) : Option String := if d < 0 then some xIAE else if d ≤ 99 then none else some xIAE
def inX (A : Nat → Nat → Int32) (x name : Int32) (nb : Nat) : Int32 := nwF (A 5) name (tbF A nb &&& A 14 (ix x)) nb
def exInstall (A : Nat → Nat → Int32) (S : Nat → Int32) (x name : Int32) (nb nm : Nat) : Option String := if inR x nm = true then (if inR name 5 = true then (if expB A S (ix x) = true then some xUOE else exF (inX A x name nb)) else some xIAE) else some xIOB
def exPass (S : Nat → Int32) (d : Int32) : Option String := if d < 1 then some xIAE else if 60 < d then some xIAE else if d ≤ 999 - S 1 then none else some xIAE
def psS (S : Nat → Int32) (d : Int32) : Nat → Int32 := uS S 1 (S 1 + d)
def psA (A : Nat → Nat → Int32) (S : Nat → Int32) (d : Int32) (nk nb : Nat) : Nat → Nat → Int32 := uA A 10 (kvF A (psS S d) (S 1 + d) nk nb)

set_option maxHeartbeats 4000000 in
set_option maxRecDepth 100000 in
theorem c_X3_addKey (l : Launch) (hst : l.stackTraces = false) (D : va_G) (cy : Nat → ClassId) (h0 : Nat) (q : Nat → Nat) (A : Nat → Nat → Int32) (S : Nat → Int32) (signer : Int32) (first : Int32) (last : Int32) (nk : Nat) (hnk : nk ≤ 8) (hck : S 3 = nI nk) : vx_Met l yX3_addKey wsX3_addKey (rmX (exAddKey S signer first last) 7 103) (va_Pc [.ref (q 0), .int signer, .int first, .int last] (pI D cy h0 (wX cy q A S))) (xwI (exAddKey S signer first last) (S 3) D cy h0 (wX cy q (uA (uA (uA A 2 (upd (A 2) nk signer)) 3 (upd (A 3) nk first)) 4 (upd (A 4) nk last)) (uS S 3 (S 3 + 1))) (qA 19 q)) (xx (exAddKey S signer first last)) (c1 (exAddKey S signer first last)) (c6 (exAddKey S signer first last)) (qA 19 q) := by
  refine vx_ofW (cc := cX3_addKey) (maxL := 4) (ret := (some .int)) (by decide) rfl ?_
  intro p e s m args below meth c s₁ B hml hout hv
  obtain ⟨rfl, hI⟩ := hv
  have hx := B.exec
  have hb := B.bytes
  have hr := B.returns
  have hts := atoms_spec (ws := wsX3_addKey) B.pre
  have hown : s.vm.findClass RX3 = some m.cls := findClass_of_methodNamed B.named
  have hlk := B.notSynchronized
  have hI : IH D cy h0 (wX cy q A S) s s.heap := hI
  have hG := hI.1
  have hqA := hA_X hI
  have hh0 : h0 ≤ s.heap.size := hI.1.2.2.2
  have hS : va_S nof s.heap s.heap [] := va_S.rf
  have hi1 : ∀ w ∈ wsX10, w ∈ wsX3_addKey := by decide +kernel
  have hi3 : ∀ w ∈ wsX30, w ∈ wsX3_addKey := by decide +kernel
  have hl := lv_entry ([.ref (q 0), .int signer, .int first, .int last]) (n := 4) (Nat.le_of_ble_eq_true rfl)
  rw [lg_entry_eq]
  generalize (lg_sl ([.ref (q 0), .int signer, .int first, .int last]) ++ List.replicate (4 - (lg_sl ([.ref (q 0), .int signer, .int first, .int last])).length) Slot.unset).toArray = ls at hl ⊢
  have hl : lv_has ls 4 [(0, .ref (q 0)), (1, .int signer), (2, .int first), (3, .int last)] := hl
  refine lv_aload_n hx hb dX3_addKey_0 rfl (lv_at hl 0 rfl) ?_
  refine lv_iload_n hx hb dX3_addKey_1 rfl (lv_at hl 1 rfl) ?_
  rcases Classical.em (inR signer 4 = true) with x2_1 | x2_1
  · refine xo_v (exR_n x2_1) (vx_runV (As := [.int signer]) (rest := []) ⟨hx, hb, hml, hown, hts⟩ (c_X3_requireSigner l hst D cy h0 q A S signer) (cwV 1 hts gX3_addKey_X3_requireSigner rfl rfl rfl (by decide +kernel) ⟨Nat.le_of_ble_eq_true rfl, Nat.le_of_ble_eq_true rfl⟩) (hI.preV (k0 := 0) rfl rfl) rfl rfl hl.1 rfl (lv_room (Nat.le_of_ble_eq_true rfl)) dX3_addKey_2 (rm_ok (exR_n x2_1) (Nat.zero_le _) (Nat.zero_le _))) hI hS (fun H locs hI hS => ?_)
    obtain ⟨hj_signer, hk_signer⟩ := inR_c (by omega) x2_1
    refine lv_iload_n hx hb dX3_addKey_5 rfl (lv_at hl 2 rfl) ?_
    refine lv_aload_n hx hb dX3_addKey_6 rfl (lv_at hl 0 rfl) ?_
    refine r_get (C := RX3) (T := TX3) (N := 7) (k := 6) (q0 := 0) (v := .int (S 1)) hx hb hts hi3 hown hI rfl rfl (by decide) (hts (.fieldLink RX3 41 "Buildlots" "today" "I") (List.mem_of_getElem? (i := 5) rfl)) rfl rfl dX3_addKey_7 ?_
    refine lv_icmp_lt (tgt := 25) hx hb dX3_addKey_10 (by decide) (fun c10_2 => ?_) (fun c10_2 => ?_)
    · exact r_throw (text := "no span of days from today on") hx hb hst hown (by decide) (by decide) tg_IAE tb_IAE (hts (.classLink RX3 48 "java/lang/IllegalArgumentException") (List.mem_of_getElem? (i := 1) rfl)) (hts (.initialized "java/lang/IllegalArgumentException") (List.mem_of_getElem? (i := 2) rfl)) (fun w h => hts w (List.mem_cons_of_mem _ (List.mem_append_left _ (List.mem_append_right _ h)))) (by decide) hG hS (by rw [hml]; exact hl.1) (by first | (simp only [exAddKey, x2_1, c10_2, ↓reduceIte, Bool.false_eq_true, reduceCtorEq]; done) | simp [exAddKey, x2_1, c10_2]) dX3_addKey_25 dX3_addKey_28 dX3_addKey_29 dX3_addKey_31 dX3_addKey_34 hout (Nat.le_of_ble_eq_true rfl) (Nat.le_of_ble_eq_true rfl) (Nat.le_refl _) (Nat.le_refl _) hlk
    · refine lv_iload_n hx hb dX3_addKey_13 rfl (lv_at hl 3 rfl) ?_
      refine lv_iload_n hx hb dX3_addKey_14 rfl (lv_at hl 2 rfl) ?_
      refine lv_icmp_lt (tgt := 25) hx hb dX3_addKey_15 (by decide) (fun c15_3 => ?_) (fun c15_3 => ?_)
      · exact r_throw (text := "no span of days from today on") hx hb hst hown (by decide) (by decide) tg_IAE tb_IAE (hts (.classLink RX3 48 "java/lang/IllegalArgumentException") (List.mem_of_getElem? (i := 1) rfl)) (hts (.initialized "java/lang/IllegalArgumentException") (List.mem_of_getElem? (i := 2) rfl)) (fun w h => hts w (List.mem_cons_of_mem _ (List.mem_append_left _ (List.mem_append_right _ h)))) (by decide) hG hS (by rw [hml]; exact hl.1) (by first | (simp only [exAddKey, x2_1, c10_2, c15_3, ↓reduceIte, Bool.false_eq_true, reduceCtorEq]; done) | simp [exAddKey, x2_1, c10_2, c15_3]) dX3_addKey_25 dX3_addKey_28 dX3_addKey_29 dX3_addKey_31 dX3_addKey_34 hout (Nat.le_of_ble_eq_true rfl) (Nat.le_of_ble_eq_true rfl) (Nat.le_refl _) (Nat.le_refl _) hlk
      · refine lv_iload_n hx hb dX3_addKey_18 rfl (lv_at hl 3 rfl) ?_
        refine lv_sipush (v := 999) hx hb dX3_addKey_19 (by decide) ?_
        refine lv_icmp_le (tgt := 35) hx hb dX3_addKey_22 (by decide) (fun c22_4 => ?_) (fun c22_4 => ?_)
        · refine lv_aload_n hx hb dX3_addKey_35 rfl (lv_at hl 0 rfl) ?_
          refine r_get (C := RX3) (T := TX3) (N := 7) (k := 0) (q0 := 0) (v := .ref (q 1)) hx hb hts hi3 hown hI rfl rfl (by decide) (hts (.fieldLink RX3 10 "Buildlots" "keys" "LBuildlots$Keys;") (List.mem_of_getElem? (i := 6) rfl)) rfl rfl dX3_addKey_36 ?_
          refine r_getN (C := RX1) (T := TX1) (N := 5) (k := 4) (q0 := 1) (v := .int (S 3)) hx hb hts hi1 hown hI rfl rfl (by decide) (List.mem_of_getElem? (i := 14) rfl) rfl rfl dX3_addKey_39 ?_
          refine lv_bipush (v := 8) hx hb dX3_addKey_42 (by decide) ?_
          refine lv_icmp_lt (tgt := 57) hx hb dX3_addKey_44 (by decide) (fun c44_5 => ?_) (fun c44_5 => ?_)
          · refine lv_aload_n hx hb dX3_addKey_57 rfl (lv_at hl 0 rfl) ?_
            refine r_get (C := RX3) (T := TX3) (N := 7) (k := 0) (q0 := 0) (v := .ref (q 1)) hx hb hts hi3 hown hI rfl rfl (by decide) (hts (.fieldLink RX3 10 "Buildlots" "keys" "LBuildlots$Keys;") (List.mem_of_getElem? (i := 6) rfl)) rfl rfl dX3_addKey_58 ?_
            refine lv_iload_n hx hb dX3_addKey_61 rfl (lv_at hl 1 rfl) ?_
            refine lv_iload_n hx hb dX3_addKey_62 rfl (lv_at hl 2 rfl) ?_
            refine lv_iload_n hx hb dX3_addKey_63 rfl (lv_at hl 3 rfl) ?_
            have hS := hS.mono (B := qA 19 q) (fun _ h => h.elim)
            refine rw_i (w' := wX cy q (uA (uA (uA A 2 (upd (A 2) nk signer)) 3 (upd (A 3) nk first)) 4 (upd (A 4) nk last)) (uS S 3 (S 3 + 1))) (va_runVN (As := [.int signer, .int first, .int last]) (rest := []) ⟨hx, hb, hml, hown, hts⟩ (c_X1_append l D cy h0 q A S signer first last nk hnk hck (lt_c (n := 8) hck c44_5 (by omega) (by decide))) ⟨va_cnB (host := RX3) 3 hts gX3_addKey_X1_append_n63 rfl rfl rfl (hG.1.2.1 (RX3, 63, yX1_append) (List.mem_of_getElem? (i := 3) rfl)) (hts (.initialized RX1) (List.mem_of_getElem? (i := 13) rfl)) (by decide +kernel) ⟨Nat.le_of_ble_eq_true rfl, Nat.le_of_ble_eq_true rfl⟩, (hts (.instanceMethod yX1_append) (List.mem_of_getElem? (i := 12) rfl)), (hts (.selects RX1 yX1_append yX1_append) (List.mem_of_getElem? (i := 14) rfl))⟩ (hI.preV (k0 := 1) rfl rfl) rfl rfl hl.1 rfl (lv_room (Nat.le_of_ble_eq_true rfl)) dX3_addKey_64 ⟨Nat.le_of_ble_eq_true rfl, Nat.le_of_ble_eq_true rfl⟩) hI hS (fun _ h => h) hqA (fun H locs hI hS => ?_)
            exact end_xwi hx hb hr (by first | (simp only [exAddKey, x2_1, c10_2, c15_3, c22_4, c44_5, ↓reduceIte, Bool.false_eq_true, reduceCtorEq]; done) | simp [exAddKey, x2_1, c10_2, c15_3, c22_4, c44_5]) rfl hI hS dX3_addKey_67 hlk
          · exact r_throw (text := "no room for another key") hx hb hst hown (by decide) (by decide) tg_ISE tb_ISE (hts (.classLink RX3 58 "java/lang/IllegalStateException") (List.mem_of_getElem? (i := 3) rfl)) (hts (.initialized "java/lang/IllegalStateException") (List.mem_of_getElem? (i := 4) rfl)) (fun w h => hts w (List.mem_cons_of_mem _ (List.mem_append_right _ h))) (by decide) hG hS (by rw [hml]; exact hl.1) (by first | (simp only [exAddKey, x2_1, c10_2, c15_3, c22_4, c44_5, ↓reduceIte, Bool.false_eq_true, reduceCtorEq]; done) | simp [exAddKey, x2_1, c10_2, c15_3, c22_4, c44_5]) dX3_addKey_47 dX3_addKey_50 dX3_addKey_51 dX3_addKey_53 dX3_addKey_56 hout (Nat.le_of_ble_eq_true rfl) (Nat.le_of_ble_eq_true rfl) (Nat.le_refl _) (Nat.le_refl _) hlk
        · exact r_throw (text := "no span of days from today on") hx hb hst hown (by decide) (by decide) tg_IAE tb_IAE (hts (.classLink RX3 48 "java/lang/IllegalArgumentException") (List.mem_of_getElem? (i := 1) rfl)) (hts (.initialized "java/lang/IllegalArgumentException") (List.mem_of_getElem? (i := 2) rfl)) (fun w h => hts w (List.mem_cons_of_mem _ (List.mem_append_left _ (List.mem_append_right _ h)))) (by decide) hG hS (by rw [hml]; exact hl.1) (by first | (simp only [exAddKey, x2_1, c10_2, c15_3, c22_4, ↓reduceIte, Bool.false_eq_true, reduceCtorEq]; done) | simp [exAddKey, x2_1, c10_2, c15_3, c22_4]) dX3_addKey_25 dX3_addKey_28 dX3_addKey_29 dX3_addKey_31 dX3_addKey_34 hout (Nat.le_of_ble_eq_true rfl) (Nat.le_of_ble_eq_true rfl) (Nat.le_refl _) (Nat.le_refl _) hlk
  · refine xb_v (E := xIAE) (exR_s x2_1) (vx_runV (As := [.int signer]) (rest := []) ⟨hx, hb, hml, hown, hts⟩ (c_X3_requireSigner l hst D cy h0 q A S signer) (cwV 1 hts gX3_addKey_X3_requireSigner rfl rfl rfl (by decide +kernel) ⟨Nat.le_of_ble_eq_true rfl, Nat.le_of_ble_eq_true rfl⟩) (hI.preV (k0 := 0) rfl rfl) rfl rfl hl.1 rfl (lv_room (Nat.le_of_ble_eq_true rfl)) dX3_addKey_2 (rm_bad (ex' := exAddKey S signer first last) (exR_s x2_1) ((by first | (simp only [exAddKey, x2_1, ↓reduceIte, Bool.false_eq_true, reduceCtorEq]; done) | simp [exAddKey, x2_1])))) hI hS (fun ce q9 H locs hI hS hce hcv hcl => ?_)
    exact r_out (by first | (simp only [exAddKey, x2_1, ↓reduceIte, Bool.false_eq_true, reduceCtorEq]; done) | simp [exAddKey, x2_1]) hS hout hlk hce hcv hcl

set_option maxHeartbeats 4000000 in
set_option maxRecDepth 100000 in
theorem c_X3_loseKey (l : Launch) (hst : l.stackTraces = false) (D : va_G) (cy : Nat → ClassId) (h0 : Nat) (q : Nat → Nat) (A : Nat → Nat → Int32) (S : Nat → Int32) (key : Int32) (nk : Nat) (hnk : nk ≤ 8) (hck : S 3 = nI nk) (nb : Nat) (hnb : nb ≤ 24) (hcb : S 5 = nI nb) (htn : ∀ b, b < nb → ∃ t, t < 5 ∧ A 5 b = nI t) : vx_Met l yX3_loseKey wsX3_loseKey (rmX (exLoseKey S key nk) 7 110) (va_Pc [.ref (q 0), .int key] (pI D cy h0 (wX cy q A S))) (xwI (exLoseKey S key nk) (bcF (tbF A nb &&& (tbF (lkA A S key nk nb) nb ^^^ (-1)))) D cy h0 (wX cy q (lkA A S key nk nb) (lkS S key)) (qA 19 q)) (xx (exLoseKey S key nk)) (c1 (exLoseKey S key nk)) (c6 (exLoseKey S key nk)) (qA 19 q) := by
  refine vx_ofW (cc := cX3_loseKey) (maxL := 3) (ret := (some .int)) (by decide) rfl ?_
  intro p e s m args below meth c s₁ B hml hout hv
  obtain ⟨rfl, hI⟩ := hv
  have hx := B.exec
  have hb := B.bytes
  have hr := B.returns
  have hts := atoms_spec (ws := wsX3_loseKey) B.pre
  have hown : s.vm.findClass RX3 = some m.cls := findClass_of_methodNamed B.named
  have hlk := B.notSynchronized
  have hI : IH D cy h0 (wX cy q A S) s s.heap := hI
  have hG := hI.1
  have hqA := hA_X hI
  have hh0 : h0 ≤ s.heap.size := hI.1.2.2.2
  have hS : va_S nof s.heap s.heap [] := va_S.rf
  have hi0 : ∀ w ∈ wsX00, w ∈ wsX3_loseKey := by decide +kernel
  have hi1 : ∀ w ∈ wsX10, w ∈ wsX3_loseKey := by decide +kernel
  have hi3 : ∀ w ∈ wsX30, w ∈ wsX3_loseKey := by decide +kernel
  have hl := lv_entry ([.ref (q 0), .int key]) (n := 3) (Nat.le_of_ble_eq_true rfl)
  rw [lg_entry_eq]
  generalize (lg_sl ([.ref (q 0), .int key]) ++ List.replicate (3 - (lg_sl ([.ref (q 0), .int key])).length) Slot.unset).toArray = ls at hl ⊢
  have hl : lv_has ls 3 [(0, .ref (q 0)), (1, .int key)] := hl
  refine lv_aload_n hx hb dX3_loseKey_0 rfl (lv_at hl 0 rfl) ?_
  refine lv_iload_n hx hb dX3_loseKey_1 rfl (lv_at hl 1 rfl) ?_
  rcases Classical.em (inR key nk = true) with x2_1 | x2_1
  · refine xo_v (exR_n x2_1) (vx_runV (As := [.int key]) (rest := []) ⟨hx, hb, hml, hown, hts⟩ (c_X3_requireKey l hst D cy h0 q A S key nk hnk hck) (cwV 1 hts gX3_loseKey_X3_requireKey rfl rfl rfl (by decide +kernel) ⟨Nat.le_of_ble_eq_true rfl, Nat.le_of_ble_eq_true rfl⟩) (hI.preV (k0 := 0) rfl rfl) rfl rfl hl.1 rfl (lv_room (Nat.le_of_ble_eq_true rfl)) dX3_loseKey_2 (rm_ok (exR_n x2_1) (Nat.zero_le _) (Nat.zero_le _))) hI hS (fun H locs hI hS => ?_)
    obtain ⟨hj_key, hk_key⟩ := inR_c (by omega) x2_1
    refine lv_aload_n hx hb dX3_loseKey_5 rfl (lv_at hl 0 rfl) ?_
    refine r_get (C := RX3) (T := TX3) (N := 7) (k := 0) (q0 := 0) (v := .ref (q 1)) hx hb hts hi3 hown hI rfl rfl (by decide) (hts (.fieldLink RX3 10 "Buildlots" "keys" "LBuildlots$Keys;") (List.mem_of_getElem? (i := 3) rfl)) rfl rfl dX3_loseKey_6 ?_
    refine r_getN (C := RX1) (T := TX1) (N := 5) (k := 3) (q0 := 1) (v := .int (S 2)) hx hb hts hi1 hown hI rfl rfl (by decide) (List.mem_of_getElem? (i := 15) rfl) rfl rfl dX3_loseKey_9 ?_
    refine lv_iload_n hx hb dX3_loseKey_12 rfl (lv_at hl 1 rfl) ?_
    refine ro_i (va_runS (As := [.int (S 2), .int key]) (rest := []) ⟨hx, hb, hml, hown, hts⟩ (c_X3_holds l (S 2) key) (va_cwS 2 hts gX3_loseKey_X3_holds rfl rfl rfl (by decide +kernel) ⟨Nat.le_of_ble_eq_true rfl, Nat.le_of_ble_eq_true rfl⟩) preT rfl rfl hl.1 rfl (lv_room (Nat.le_of_ble_eq_true rfl)) dX3_loseKey_13 ⟨Nat.le_of_ble_eq_true rfl, Nat.le_of_ble_eq_true rfl⟩) hI hS (fun H locs hI hS => ?_)
    refine r_ifeq_b (tgt := 29) hx hb dX3_loseKey_16 (by decide) (fun c16_2 => ?_) (fun c16_2 => ?_)
    · refine lv_aload_n hx hb dX3_loseKey_29 rfl (lv_at hl 0 rfl) ?_
      refine ro_i (va_runV (As := []) (rest := []) ⟨hx, hb, hml, hown, hts⟩ (c_X3_trustedBuilds l D cy h0 q A S nb hnb hcb htn) (cwV 0 hts gX3_loseKey_X3_trustedBuilds rfl rfl rfl (by decide +kernel) ⟨Nat.le_of_ble_eq_true rfl, Nat.le_of_ble_eq_true rfl⟩) (hI.preV (k0 := 0) rfl rfl) rfl rfl hl.1 rfl (lv_room (Nat.le_of_ble_eq_true rfl)) dX3_loseKey_30 ⟨Nat.le_of_ble_eq_true rfl, Nat.le_of_ble_eq_true rfl⟩) hI hS (fun H locs hI hS => ?_)
      refine lv_istore_n (lv' := [(2, .int (tbF A nb)), (0, .ref (q 0)), (1, .int key)]) hx hb dX3_loseKey_33 rfl hl (by decide) rfl (fun ls hl => ?_)
      refine lv_aload_n hx hb dX3_loseKey_34 rfl (lv_at hl 1 rfl) ?_
      refine r_get (C := RX3) (T := TX3) (N := 7) (k := 0) (q0 := 0) (v := .ref (q 1)) hx hb hts hi3 hown hI rfl rfl (by decide) (hts (.fieldLink RX3 10 "Buildlots" "keys" "LBuildlots$Keys;") (List.mem_of_getElem? (i := 3) rfl)) rfl rfl dX3_loseKey_35 ?_
      refine lv_dup hx hb dX3_loseKey_38 rfl ?_
      refine r_getN (C := RX1) (T := TX1) (N := 5) (k := 3) (q0 := 1) (v := .int (S 2)) hx hb hts hi1 hown hI rfl rfl (by decide) (List.mem_of_getElem? (i := 15) rfl) rfl rfl dX3_loseKey_39 ?_
      refine lv_iload_n hx hb dX3_loseKey_42 rfl (lv_at hl 2 rfl) ?_
      refine ro_i (va_runS (As := [.int key]) (rest := [.int (S 2), .ref (q 1)]) ⟨hx, hb, hml, hown, hts⟩ (c_X3_only l key) (va_cwS 1 hts gX3_loseKey_X3_only rfl rfl rfl (by decide +kernel) ⟨Nat.le_of_ble_eq_true rfl, Nat.le_of_ble_eq_true rfl⟩) preT rfl rfl hl.1 rfl (lv_room (Nat.le_of_ble_eq_true rfl)) dX3_loseKey_43 ⟨Nat.le_of_ble_eq_true rfl, Nat.le_of_ble_eq_true rfl⟩) hI hS (fun H locs hI hS => ?_)
      refine lv_ior hx hb dX3_loseKey_46 ?_
      have hS := hS.mono (B := qA 19 q) (fun _ h => h.elim)
      refine r_putN (w' := wX cy q A (uS S 2 ((S 2) ||| (ly key)))) (C := RX1) (T := TX1) (N := 5) (k := 3) (q0 := 1) (ty := .int) (v := .int ((S 2) ||| (ly key))) hx hb hts hi1 tyX1_ok nmX1 hown hI hS hqA hh0 (qA_X hI) rfl rfl (by decide) (List.mem_of_getElem? (i := 15) rfl) rfl rfl (by decide +kernel) rfl rfl (Nat.le_of_ble_eq_true rfl) dX3_loseKey_47 rfl (fun H locs hI hS => ?_)
      refine lv_aload_n hx hb dX3_loseKey_50 rfl (lv_at hl 1 rfl) ?_
      refine r_get (C := RX3) (T := TX3) (N := 7) (k := 1) (q0 := 0) (v := .ref (q 2)) hx hb hts hi3 hown hI rfl rfl (by decide) (hts (.fieldLink RX3 19 "Buildlots" "builds" "LBuildlots$Builds;") (List.mem_of_getElem? (i := 4) rfl)) rfl rfl dX3_loseKey_51 ?_
      refine lv_aload_n hx hb dX3_loseKey_54 rfl (lv_at hl 1 rfl) ?_
      refine r_get (C := RX3) (T := TX3) (N := 7) (k := 0) (q0 := 0) (v := .ref (q 1)) hx hb hts hi3 hown hI rfl rfl (by decide) (hts (.fieldLink RX3 10 "Buildlots" "keys" "LBuildlots$Keys;") (List.mem_of_getElem? (i := 3) rfl)) rfl rfl dX3_loseKey_55 ?_
      refine lv_aload_n hx hb dX3_loseKey_58 rfl (lv_at hl 1 rfl) ?_
      refine r_get (C := RX3) (T := TX3) (N := 7) (k := 6) (q0 := 0) (v := .int (S 1)) hx hb hts hi3 hown hI rfl rfl (by decide) (hts (.fieldLink RX3 41 "Buildlots" "today" "I") (List.mem_of_getElem? (i := 5) rfl)) rfl rfl dX3_loseKey_59 ?_
      refine rw_v (w' := wX cy q (uA A 10 (kvF A (uS S 2 ((S 2) ||| (ly key))) (S 1) nk nb)) (uS S 2 ((S 2) ||| (ly key)))) (va_runVN (As := [.ref (q 1), .int (S 1)]) (rest := []) ⟨hx, hb, hml, hown, hts⟩ (c_X0_keepVouchers l D cy h0 q A (uS S 2 ((S 2) ||| (ly key))) (S 1) nk hnk hck nb hnb hcb) ⟨va_cnB (host := RX3) 2 hts gX3_loseKey_X0_keepVouchers_n87 rfl rfl rfl (hG.1.2.1 (RX3, 87, yX0_keepVouchers) (List.mem_of_getElem? (i := 4) rfl)) (hts (.initialized RX0) (List.mem_of_getElem? (i := 35) rfl)) (by decide +kernel) ⟨Nat.le_of_ble_eq_true rfl, Nat.le_of_ble_eq_true rfl⟩, (hts (.instanceMethod yX0_keepVouchers) (List.mem_of_getElem? (i := 34) rfl)), (hts (.selects RX0 yX0_keepVouchers yX0_keepVouchers) (List.mem_of_getElem? (i := 36) rfl))⟩ (hI.preV (k0 := 2) rfl rfl) rfl rfl hl.1 rfl (lv_room (Nat.le_of_ble_eq_true rfl)) dX3_loseKey_62 ⟨Nat.le_of_ble_eq_true rfl, Nat.le_of_ble_eq_true rfl⟩) hI hS (fun _ h => h) hqA (fun H locs hI hS => ?_)
      refine lv_iload_n hx hb dX3_loseKey_65 rfl (lv_at hl 0 rfl) ?_
      refine lv_aload_n hx hb dX3_loseKey_66 rfl (lv_at hl 1 rfl) ?_
      refine ro_i (va_runV (As := []) (rest := [.int (tbF A nb)]) ⟨hx, hb, hml, hown, hts⟩ (c_X3_trustedBuilds l D cy h0 q (uA A 10 (kvF A (uS S 2 ((S 2) ||| (ly key))) (S 1) nk nb)) (uS S 2 ((S 2) ||| (ly key))) nb hnb hcb htn) (cwV 0 hts gX3_loseKey_X3_trustedBuilds rfl rfl rfl (by decide +kernel) ⟨Nat.le_of_ble_eq_true rfl, Nat.le_of_ble_eq_true rfl⟩) (hI.preV (k0 := 0) rfl rfl) rfl rfl hl.1 rfl (lv_room (Nat.le_of_ble_eq_true rfl)) dX3_loseKey_67 ⟨Nat.le_of_ble_eq_true rfl, Nat.le_of_ble_eq_true rfl⟩) hI hS (fun H locs hI hS => ?_)
      refine lv_iconst (v := (-1)) hx hb dX3_loseKey_70 (by decide) ?_
      refine lv_ixor hx hb dX3_loseKey_71 ?_
      refine lv_iand hx hb dX3_loseKey_72 ?_
      refine ro_i (va_runS (As := [.int ((tbF A nb) &&& ((tbF (uA A 10 (kvF A (uS S 2 ((S 2) ||| (ly key))) (S 1) nk nb)) nb) ^^^ (-1)))]) (rest := []) ⟨hx, hb, hml, hown, hts⟩ (c_J6_bitCount_0f7a4 l ((tbF A nb) &&& ((tbF (uA A 10 (kvF A (uS S 2 ((S 2) ||| (ly key))) (S 1) nk nb)) nb) ^^^ (-1)))) (va_cwS 1 hts gX3_loseKey_J6_bitCount_0f7a4 rfl rfl rfl (by decide +kernel) ⟨Nat.le_of_ble_eq_true rfl, Nat.le_of_ble_eq_true rfl⟩) preT rfl rfl hl.1 rfl (lv_room (Nat.le_of_ble_eq_true rfl)) dX3_loseKey_73 ⟨Nat.le_of_ble_eq_true rfl, Nat.le_of_ble_eq_true rfl⟩) hI hS (fun H locs hI hS => ?_)
      rw [show wX cy q (uA A 10 (kvF A (uS S 2 ((S 2) ||| (ly key))) (S 1) nk nb)) (uS S 2 ((S 2) ||| (ly key))) = wX cy q (lkA A S key nk nb) (lkS S key) from rfl] at hI
      exact end_xwi hx hb hr (by first | (simp only [exLoseKey, x2_1, c16_2, ↓reduceIte, Bool.false_eq_true, reduceCtorEq]; done) | simp [exLoseKey, x2_1, c16_2]) rfl hI hS dX3_loseKey_76 hlk
    · exact r_throw (text := "the key is lost") hx hb hst hown (by decide) (by decide) tg_ISE tb_ISE (hts (.classLink RX3 58 "java/lang/IllegalStateException") (List.mem_of_getElem? (i := 1) rfl)) (hts (.initialized "java/lang/IllegalStateException") (List.mem_of_getElem? (i := 2) rfl)) (fun w h => hts w (List.mem_cons_of_mem _ (List.mem_append_left _ (List.mem_append_right _ h)))) (by decide) hG hS (by rw [hml]; exact hl.1) (by first | (simp only [exLoseKey, x2_1, c16_2, ↓reduceIte, Bool.false_eq_true, reduceCtorEq]; done) | simp [exLoseKey, x2_1, c16_2]) dX3_loseKey_19 dX3_loseKey_22 dX3_loseKey_23 dX3_loseKey_25 dX3_loseKey_28 hout (Nat.le_of_ble_eq_true rfl) (Nat.le_of_ble_eq_true rfl) (Nat.le_refl _) (Nat.le_refl _) hlk
  · refine xb_v (E := xIOB) (exR_s x2_1) (vx_runV (As := [.int key]) (rest := []) ⟨hx, hb, hml, hown, hts⟩ (c_X3_requireKey l hst D cy h0 q A S key nk hnk hck) (cwV 1 hts gX3_loseKey_X3_requireKey rfl rfl rfl (by decide +kernel) ⟨Nat.le_of_ble_eq_true rfl, Nat.le_of_ble_eq_true rfl⟩) (hI.preV (k0 := 0) rfl rfl) rfl rfl hl.1 rfl (lv_room (Nat.le_of_ble_eq_true rfl)) dX3_loseKey_2 (rm_bad (ex' := exLoseKey S key nk) (exR_s x2_1) ((by first | (simp only [exLoseKey, x2_1, ↓reduceIte, Bool.false_eq_true, reduceCtorEq]; done) | simp [exLoseKey, x2_1])))) hI hS (fun ce q9 H locs hI hS hce hcv hcl => ?_)
    exact r_out (by first | (simp only [exLoseKey, x2_1, ↓reduceIte, Bool.false_eq_true, reduceCtorEq]; done) | simp [exLoseKey, x2_1]) hS hout hlk hce hcv hcl

set_option maxHeartbeats 4000000 in
set_option maxRecDepth 100000 in
theorem c_X3_extendKey (l : Launch) (hst : l.stackTraces = false) (D : va_G) (cy : Nat → ClassId) (h0 : Nat) (q : Nat → Nat) (A : Nat → Nat → Int32) (S : Nat → Int32) (key : Int32) (last : Int32) (nk : Nat) (hnk : nk ≤ 8) (hck : S 3 = nI nk) : vx_Met l yX3_extendKey wsX3_extendKey (rmX (exExtendKey A S key last nk) 7 103) (va_Pc [.ref (q 0), .int key, .int last] (pI D cy h0 (wX cy q A S))) (xwI (exExtendKey A S key last nk) (A 4 (ix key)) D cy h0 (wX cy q (uA A 4 (upd (A 4) (ix key) last)) S) (qA 19 q)) (xx (exExtendKey A S key last nk)) (c1 (exExtendKey A S key last nk)) (c6 (exExtendKey A S key last nk)) (qA 19 q) := by
  refine vx_ofW (cc := cX3_extendKey) (maxL := 4) (ret := (some .int)) (by decide) rfl ?_
  intro p e s m args below meth c s₁ B hml hout hv
  obtain ⟨rfl, hI⟩ := hv
  have hx := B.exec
  have hb := B.bytes
  have hr := B.returns
  have hts := atoms_spec (ws := wsX3_extendKey) B.pre
  have hown : s.vm.findClass RX3 = some m.cls := findClass_of_methodNamed B.named
  have hlk := B.notSynchronized
  have hI : IH D cy h0 (wX cy q A S) s s.heap := hI
  have hG := hI.1
  have hqA := hA_X hI
  have hh0 : h0 ≤ s.heap.size := hI.1.2.2.2
  have hS : va_S nof s.heap s.heap [] := va_S.rf
  have hi1 : ∀ w ∈ wsX10, w ∈ wsX3_extendKey := by decide +kernel
  have hi3 : ∀ w ∈ wsX30, w ∈ wsX3_extendKey := by decide +kernel
  have hl := lv_entry ([.ref (q 0), .int key, .int last]) (n := 4) (Nat.le_of_ble_eq_true rfl)
  rw [lg_entry_eq]
  generalize (lg_sl ([.ref (q 0), .int key, .int last]) ++ List.replicate (4 - (lg_sl ([.ref (q 0), .int key, .int last])).length) Slot.unset).toArray = ls at hl ⊢
  have hl : lv_has ls 4 [(0, .ref (q 0)), (1, .int key), (2, .int last)] := hl
  refine lv_aload_n hx hb dX3_extendKey_0 rfl (lv_at hl 0 rfl) ?_
  refine lv_iload_n hx hb dX3_extendKey_1 rfl (lv_at hl 1 rfl) ?_
  rcases Classical.em (inR key nk = true) with x2_1 | x2_1
  · refine xo_v (exR_n x2_1) (vx_runV (As := [.int key]) (rest := []) ⟨hx, hb, hml, hown, hts⟩ (c_X3_requireKey l hst D cy h0 q A S key nk hnk hck) (cwV 1 hts gX3_extendKey_X3_requireKey rfl rfl rfl (by decide +kernel) ⟨Nat.le_of_ble_eq_true rfl, Nat.le_of_ble_eq_true rfl⟩) (hI.preV (k0 := 0) rfl rfl) rfl rfl hl.1 rfl (lv_room (Nat.le_of_ble_eq_true rfl)) dX3_extendKey_2 (rm_ok (exR_n x2_1) (Nat.zero_le _) (Nat.zero_le _))) hI hS (fun H locs hI hS => ?_)
    obtain ⟨hj_key, hk_key⟩ := inR_c (by omega) x2_1
    refine lv_aload_n hx hb dX3_extendKey_5 rfl (lv_at hl 0 rfl) ?_
    refine r_get (C := RX3) (T := TX3) (N := 7) (k := 0) (q0 := 0) (v := .ref (q 1)) hx hb hts hi3 hown hI rfl rfl (by decide) (hts (.fieldLink RX3 10 "Buildlots" "keys" "LBuildlots$Keys;") (List.mem_of_getElem? (i := 5) rfl)) rfl rfl dX3_extendKey_6 ?_
    refine r_getN (C := RX1) (T := TX1) (N := 5) (k := 2) (q0 := 1) (v := .ref (q 8)) hx hb hts hi1 hown hI rfl rfl (by decide) (List.mem_of_getElem? (i := 16) rfl) rfl rfl dX3_extendKey_9 ?_
    refine lv_iload_n hx hb dX3_extendKey_12 rfl (lv_at hl 1 rfl) ?_
    refine r_iald (q0 := 8) (j := (ix key)) (n := 8) (f := (A 4)) hx hb hI rfl hk_key (by omega) (by decide) dX3_extendKey_13 ?_
    refine lv_istore_n (lv' := [(3, .int (A 4 (ix key))), (0, .ref (q 0)), (1, .int key), (2, .int last)]) hx hb dX3_extendKey_14 rfl hl (by decide) rfl (fun ls hl => ?_)
    refine lv_iload_n hx hb dX3_extendKey_15 rfl (lv_at hl 3 rfl) ?_
    refine lv_iload_n hx hb dX3_extendKey_16 rfl (lv_at hl 0 rfl) ?_
    refine lv_icmp_le (tgt := 27) hx hb dX3_extendKey_17 (by decide) (fun c17_2 => ?_) (fun c17_2 => ?_)
    · exact r_throw (text := "no later day") hx hb hst hown (by decide) (by decide) tg_IAE tb_IAE (hts (.classLink RX3 48 "java/lang/IllegalArgumentException") (List.mem_of_getElem? (i := 1) rfl)) (hts (.initialized "java/lang/IllegalArgumentException") (List.mem_of_getElem? (i := 2) rfl)) (fun w h => hts w (List.mem_cons_of_mem _ (List.mem_append_left _ (List.mem_append_left _ (List.mem_append_right _ h))))) (by decide) hG hS (by rw [hml]; exact hl.1) (by first | (simp only [exExtendKey, x2_1, c17_2, ↓reduceIte, Bool.false_eq_true, reduceCtorEq]; done) | simp [exExtendKey, x2_1, c17_2]) dX3_extendKey_27 dX3_extendKey_30 dX3_extendKey_31 dX3_extendKey_33 dX3_extendKey_36 hout (Nat.le_of_ble_eq_true rfl) (Nat.le_of_ble_eq_true rfl) (Nat.le_refl _) (Nat.le_refl _) hlk
    · refine lv_iload_n hx hb dX3_extendKey_20 rfl (lv_at hl 3 rfl) ?_
      refine lv_sipush (v := 999) hx hb dX3_extendKey_21 (by decide) ?_
      refine lv_icmp_le (tgt := 37) hx hb dX3_extendKey_24 (by decide) (fun c24_3 => ?_) (fun c24_3 => ?_)
      · refine lv_aload_n hx hb dX3_extendKey_37 rfl (lv_at hl 1 rfl) ?_
        refine r_get (C := RX3) (T := TX3) (N := 7) (k := 0) (q0 := 0) (v := .ref (q 1)) hx hb hts hi3 hown hI rfl rfl (by decide) (hts (.fieldLink RX3 10 "Buildlots" "keys" "LBuildlots$Keys;") (List.mem_of_getElem? (i := 5) rfl)) rfl rfl dX3_extendKey_38 ?_
        refine r_getN (C := RX1) (T := TX1) (N := 5) (k := 3) (q0 := 1) (v := .int (S 2)) hx hb hts hi1 hown hI rfl rfl (by decide) (List.mem_of_getElem? (i := 15) rfl) rfl rfl dX3_extendKey_41 ?_
        refine lv_iload_n hx hb dX3_extendKey_44 rfl (lv_at hl 2 rfl) ?_
        refine ro_i (va_runS (As := [.int (S 2), .int key]) (rest := []) ⟨hx, hb, hml, hown, hts⟩ (c_X3_holds l (S 2) key) (va_cwS 2 hts gX3_extendKey_X3_holds rfl rfl rfl (by decide +kernel) ⟨Nat.le_of_ble_eq_true rfl, Nat.le_of_ble_eq_true rfl⟩) preT rfl rfl hl.1 rfl (lv_room (Nat.le_of_ble_eq_true rfl)) dX3_extendKey_45 ⟨Nat.le_of_ble_eq_true rfl, Nat.le_of_ble_eq_true rfl⟩) hI hS (fun H locs hI hS => ?_)
        refine r_ifne_b (tgt := 59) hx hb dX3_extendKey_48 (by decide) (fun c48_4 => ?_) (fun c48_4 => ?_)
        · exact r_throw (text := "the key is lost or its last day has passed") hx hb hst hown (by decide) (by decide) tg_ISE tb_ISE (hts (.classLink RX3 58 "java/lang/IllegalStateException") (List.mem_of_getElem? (i := 3) rfl)) (hts (.initialized "java/lang/IllegalStateException") (List.mem_of_getElem? (i := 4) rfl)) (fun w h => hts w (List.mem_cons_of_mem _ (List.mem_append_left _ (List.mem_append_right _ h)))) (by decide) hG hS (by rw [hml]; exact hl.1) (by first | (simp only [exExtendKey, x2_1, c17_2, c24_3, c48_4, ↓reduceIte, Bool.false_eq_true, reduceCtorEq]; done) | simp [exExtendKey, x2_1, c17_2, c24_3, c48_4]) dX3_extendKey_59 dX3_extendKey_62 dX3_extendKey_63 dX3_extendKey_65 dX3_extendKey_68 hout (Nat.le_of_ble_eq_true rfl) (Nat.le_of_ble_eq_true rfl) (Nat.le_refl _) (Nat.le_refl _) hlk
        · refine lv_iload_n hx hb dX3_extendKey_51 rfl (lv_at hl 0 rfl) ?_
          refine lv_aload_n hx hb dX3_extendKey_52 rfl (lv_at hl 1 rfl) ?_
          refine r_get (C := RX3) (T := TX3) (N := 7) (k := 6) (q0 := 0) (v := .int (S 1)) hx hb hts hi3 hown hI rfl rfl (by decide) (hts (.fieldLink RX3 41 "Buildlots" "today" "I") (List.mem_of_getElem? (i := 6) rfl)) rfl rfl dX3_extendKey_53 ?_
          refine lv_icmp_ge (tgt := 69) hx hb dX3_extendKey_56 (by decide) (fun c56_5 => ?_) (fun c56_5 => ?_)
          · refine lv_aload_n hx hb dX3_extendKey_69 rfl (lv_at hl 1 rfl) ?_
            refine r_get (C := RX3) (T := TX3) (N := 7) (k := 0) (q0 := 0) (v := .ref (q 1)) hx hb hts hi3 hown hI rfl rfl (by decide) (hts (.fieldLink RX3 10 "Buildlots" "keys" "LBuildlots$Keys;") (List.mem_of_getElem? (i := 5) rfl)) rfl rfl dX3_extendKey_70 ?_
            refine r_getN (C := RX1) (T := TX1) (N := 5) (k := 2) (q0 := 1) (v := .ref (q 8)) hx hb hts hi1 hown hI rfl rfl (by decide) (List.mem_of_getElem? (i := 16) rfl) rfl rfl dX3_extendKey_73 ?_
            refine lv_iload_n hx hb dX3_extendKey_76 rfl (lv_at hl 2 rfl) ?_
            refine lv_iload_n hx hb dX3_extendKey_77 rfl (lv_at hl 3 rfl) ?_
            have hS := hS.mono (B := qA 19 q) (fun _ h => h.elim)
            refine r_iast (w' := wX cy q (uA A 4 (upd (A 4) (ix key) last)) S) (q0 := 8) (j := (ix key)) (n := 8) (f := (A 4)) hx hb hI hS hqA hh0 (qA_X hI) rfl hk_key (by omega) (by decide) dX3_extendKey_78 rfl (fun H locs hI hS => ?_)
            refine lv_iload_n hx hb dX3_extendKey_79 rfl (lv_at hl 0 rfl) ?_
            exact end_xwi hx hb hr (by first | (simp only [exExtendKey, x2_1, c17_2, c24_3, c48_4, c56_5, ↓reduceIte, Bool.false_eq_true, reduceCtorEq]; done) | simp [exExtendKey, x2_1, c17_2, c24_3, c48_4, c56_5]) rfl hI hS dX3_extendKey_80 hlk
          · exact r_throw (text := "the key is lost or its last day has passed") hx hb hst hown (by decide) (by decide) tg_ISE tb_ISE (hts (.classLink RX3 58 "java/lang/IllegalStateException") (List.mem_of_getElem? (i := 3) rfl)) (hts (.initialized "java/lang/IllegalStateException") (List.mem_of_getElem? (i := 4) rfl)) (fun w h => hts w (List.mem_cons_of_mem _ (List.mem_append_left _ (List.mem_append_right _ h)))) (by decide) hG hS (by rw [hml]; exact hl.1) (by first | (simp only [exExtendKey, x2_1, c17_2, c24_3, c48_4, c56_5, ↓reduceIte, Bool.false_eq_true, reduceCtorEq]; done) | simp [exExtendKey, x2_1, c17_2, c24_3, c48_4, c56_5]) dX3_extendKey_59 dX3_extendKey_62 dX3_extendKey_63 dX3_extendKey_65 dX3_extendKey_68 hout (Nat.le_of_ble_eq_true rfl) (Nat.le_of_ble_eq_true rfl) (Nat.le_refl _) (Nat.le_refl _) hlk
      · exact r_throw (text := "no later day") hx hb hst hown (by decide) (by decide) tg_IAE tb_IAE (hts (.classLink RX3 48 "java/lang/IllegalArgumentException") (List.mem_of_getElem? (i := 1) rfl)) (hts (.initialized "java/lang/IllegalArgumentException") (List.mem_of_getElem? (i := 2) rfl)) (fun w h => hts w (List.mem_cons_of_mem _ (List.mem_append_left _ (List.mem_append_left _ (List.mem_append_right _ h))))) (by decide) hG hS (by rw [hml]; exact hl.1) (by first | (simp only [exExtendKey, x2_1, c17_2, c24_3, ↓reduceIte, Bool.false_eq_true, reduceCtorEq]; done) | simp [exExtendKey, x2_1, c17_2, c24_3]) dX3_extendKey_27 dX3_extendKey_30 dX3_extendKey_31 dX3_extendKey_33 dX3_extendKey_36 hout (Nat.le_of_ble_eq_true rfl) (Nat.le_of_ble_eq_true rfl) (Nat.le_refl _) (Nat.le_refl _) hlk
  · refine xb_v (E := xIOB) (exR_s x2_1) (vx_runV (As := [.int key]) (rest := []) ⟨hx, hb, hml, hown, hts⟩ (c_X3_requireKey l hst D cy h0 q A S key nk hnk hck) (cwV 1 hts gX3_extendKey_X3_requireKey rfl rfl rfl (by decide +kernel) ⟨Nat.le_of_ble_eq_true rfl, Nat.le_of_ble_eq_true rfl⟩) (hI.preV (k0 := 0) rfl rfl) rfl rfl hl.1 rfl (lv_room (Nat.le_of_ble_eq_true rfl)) dX3_extendKey_2 (rm_bad (ex' := exExtendKey A S key last nk) (exR_s x2_1) ((by first | (simp only [exExtendKey, x2_1, ↓reduceIte, Bool.false_eq_true, reduceCtorEq]; done) | simp [exExtendKey, x2_1])))) hI hS (fun ce q9 H locs hI hS hce hcv hcl => ?_)
    exact r_out (by first | (simp only [exExtendKey, x2_1, ↓reduceIte, Bool.false_eq_true, reduceCtorEq]; done) | simp [exExtendKey, x2_1]) hS hout hlk hce hcv hcl

set_option maxHeartbeats 4000000 in
set_option maxRecDepth 100000 in
theorem c_X3_isLive (l : Launch) (hst : l.stackTraces = false) (D : va_G) (cy : Nat → ClassId) (h0 : Nat) (q : Nat → Nat) (A : Nat → Nat → Int32) (S : Nat → Int32) (key : Int32) (nk : Nat) (hnk : nk ≤ 8) (hck : S 3 = nI nk) : vx_Met l yX3_isLive wsX3_isLive (rmX (exR key nk xIOB) 7 103) (va_Pc [.ref (q 0), .int key] (pI D cy h0 (wX cy q A S))) (xoI (exR key nk xIOB) (bI (liveB A S (ix key) (S 1)))) (xx (exR key nk xIOB)) (c1 (exR key nk xIOB)) (c6 (exR key nk xIOB)) nof := by
  refine vx_ofW (cc := cX3_isLive) (maxL := 2) (ret := (some .boolean)) (by decide) rfl ?_
  intro p e s m args below meth c s₁ B hml hout hv
  obtain ⟨rfl, hI⟩ := hv
  have hx := B.exec
  have hb := B.bytes
  have hr := B.returns
  have hts := atoms_spec (ws := wsX3_isLive) B.pre
  have hown : s.vm.findClass RX3 = some m.cls := findClass_of_methodNamed B.named
  have hlk := B.notSynchronized
  have hI : IH D cy h0 (wX cy q A S) s s.heap := hI
  have hG := hI.1
  have hS : va_S nof s.heap s.heap [] := va_S.rf
  have hi1 : ∀ w ∈ wsX10, w ∈ wsX3_isLive := by decide +kernel
  have hi3 : ∀ w ∈ wsX30, w ∈ wsX3_isLive := by decide +kernel
  have hl := lv_entry ([.ref (q 0), .int key]) (n := 2) (Nat.le_of_ble_eq_true rfl)
  rw [lg_entry_eq]
  generalize (lg_sl ([.ref (q 0), .int key]) ++ List.replicate (2 - (lg_sl ([.ref (q 0), .int key])).length) Slot.unset).toArray = ls at hl ⊢
  have hl : lv_has ls 2 [(0, .ref (q 0)), (1, .int key)] := hl
  refine lv_aload_n hx hb dX3_isLive_0 rfl (lv_at hl 0 rfl) ?_
  refine lv_iload_n hx hb dX3_isLive_1 rfl (lv_at hl 1 rfl) ?_
  rcases Classical.em (inR key nk = true) with x2_1 | x2_1
  · refine xo_v (exR_n x2_1) (vx_runV (As := [.int key]) (rest := []) ⟨hx, hb, hml, hown, hts⟩ (c_X3_requireKey l hst D cy h0 q A S key nk hnk hck) (cwV 1 hts gX3_isLive_X3_requireKey rfl rfl rfl (by decide +kernel) ⟨Nat.le_of_ble_eq_true rfl, Nat.le_of_ble_eq_true rfl⟩) (hI.preV (k0 := 0) rfl rfl) rfl rfl hl.1 rfl (lv_room (Nat.le_of_ble_eq_true rfl)) dX3_isLive_2 (rm_ok (exR_n x2_1) (Nat.zero_le _) (Nat.zero_le _))) hI hS (fun H locs hI hS => ?_)
    obtain ⟨hj_key, hk_key⟩ := inR_c (by omega) x2_1
    refine lv_aload_n hx hb dX3_isLive_5 rfl (lv_at hl 0 rfl) ?_
    refine r_get (C := RX3) (T := TX3) (N := 7) (k := 0) (q0 := 0) (v := .ref (q 1)) hx hb hts hi3 hown hI rfl rfl (by decide) (hts (.fieldLink RX3 10 "Buildlots" "keys" "LBuildlots$Keys;") (List.mem_of_getElem? (i := 1) rfl)) rfl rfl dX3_isLive_6 ?_
    refine lv_iload_n hx hb dX3_isLive_9 rfl (lv_at hl 1 rfl) ?_
    refine lv_aload_n hx hb dX3_isLive_10 rfl (lv_at hl 0 rfl) ?_
    refine r_get (C := RX3) (T := TX3) (N := 7) (k := 6) (q0 := 0) (v := .int (S 1)) hx hb hts hi3 hown hI rfl rfl (by decide) (hts (.fieldLink RX3 41 "Buildlots" "today" "I") (List.mem_of_getElem? (i := 2) rfl)) rfl rfl dX3_isLive_11 ?_
    refine ro_i (va_runVN (As := [.int key, .int (S 1)]) (rest := []) ⟨hx, hb, hml, hown, hts⟩ (c_X1_liveOn l D cy h0 q A S key (S 1) (ix key) (by omega) hk_key) ⟨va_cnB (host := RX3) 2 hts gX3_isLive_X1_liveOn_n103 rfl rfl rfl (hG.1.2.1 (RX3, 103, yX1_liveOn) (List.mem_of_getElem? (i := 9) rfl)) (hts (.initialized RX1) (List.mem_of_getElem? (i := 11) rfl)) (by decide +kernel) ⟨Nat.le_of_ble_eq_true rfl, Nat.le_of_ble_eq_true rfl⟩, (hts (.instanceMethod yX1_liveOn) (List.mem_of_getElem? (i := 10) rfl)), (hts (.selects RX1 yX1_liveOn yX1_liveOn) (List.mem_of_getElem? (i := 12) rfl))⟩ (hI.preV (k0 := 1) rfl rfl) rfl rfl hl.1 rfl (lv_room (Nat.le_of_ble_eq_true rfl)) dX3_isLive_14 ⟨Nat.le_of_ble_eq_true rfl, Nat.le_of_ble_eq_true rfl⟩) hI hS (fun H locs hI hS => ?_)
    exact end_xoz hx hb hr (nz_bI _) (by first | (simp only [exR, x2_1, ↓reduceIte, Bool.false_eq_true, reduceCtorEq]; done) | simp [exR, x2_1]) rfl hS dX3_isLive_17 hlk
  · refine xb_v (E := xIOB) (exR_s x2_1) (vx_runV (As := [.int key]) (rest := []) ⟨hx, hb, hml, hown, hts⟩ (c_X3_requireKey l hst D cy h0 q A S key nk hnk hck) (cwV 1 hts gX3_isLive_X3_requireKey rfl rfl rfl (by decide +kernel) ⟨Nat.le_of_ble_eq_true rfl, Nat.le_of_ble_eq_true rfl⟩) (hI.preV (k0 := 0) rfl rfl) rfl rfl hl.1 rfl (lv_room (Nat.le_of_ble_eq_true rfl)) dX3_isLive_2 (rm_bad (ex' := exR key nk xIOB) (exR_s x2_1) ((by first | (simp only [exR, x2_1, ↓reduceIte, Bool.false_eq_true, reduceCtorEq]; done) | simp [exR, x2_1])))) hI hS (fun ce q9 H locs hI hS hce hcv hcl => ?_)
    exact r_out (by first | (simp only [exR, x2_1, ↓reduceIte, Bool.false_eq_true, reduceCtorEq]; done) | simp [exR, x2_1]) hS hout hlk hce hcv hcl

set_option maxHeartbeats 4000000 in
set_option maxRecDepth 100000 in
theorem c_X3_setWeight (l : Launch) (hst : l.stackTraces = false) (D : va_G) (cy : Nat → ClassId) (h0 : Nat) (q : Nat → Nat) (A : Nat → Nat → Int32) (S : Nat → Int32) (signer : Int32) (weight : Int32) : vx_Met l yX3_setWeight wsX3_setWeight (rmX (exSetWeight signer weight) 7 103) (va_Pc [.ref (q 0), .int signer, .int weight] (pI D cy h0 (wX cy q A S))) (xwI (exSetWeight signer weight) (A 0 (ix signer)) D cy h0 (wX cy q (uA A 0 (upd (A 0) (ix signer) weight)) S) (qA 19 q)) (xx (exSetWeight signer weight)) (c1 (exSetWeight signer weight)) (c6 (exSetWeight signer weight)) (qA 19 q) := by
  refine vx_ofW (cc := cX3_setWeight) (maxL := 4) (ret := (some .int)) (by decide) rfl ?_
  intro p e s m args below meth c s₁ B hml hout hv
  obtain ⟨rfl, hI⟩ := hv
  have hx := B.exec
  have hb := B.bytes
  have hr := B.returns
  have hts := atoms_spec (ws := wsX3_setWeight) B.pre
  have hown : s.vm.findClass RX3 = some m.cls := findClass_of_methodNamed B.named
  have hlk := B.notSynchronized
  have hI : IH D cy h0 (wX cy q A S) s s.heap := hI
  have hG := hI.1
  have hqA := hA_X hI
  have hh0 : h0 ≤ s.heap.size := hI.1.2.2.2
  have hS : va_S nof s.heap s.heap [] := va_S.rf
  have hi3 : ∀ w ∈ wsX30, w ∈ wsX3_setWeight := by decide +kernel
  have hl := lv_entry ([.ref (q 0), .int signer, .int weight]) (n := 4) (Nat.le_of_ble_eq_true rfl)
  rw [lg_entry_eq]
  generalize (lg_sl ([.ref (q 0), .int signer, .int weight]) ++ List.replicate (4 - (lg_sl ([.ref (q 0), .int signer, .int weight])).length) Slot.unset).toArray = ls at hl ⊢
  have hl : lv_has ls 4 [(0, .ref (q 0)), (1, .int signer), (2, .int weight)] := hl
  refine lv_aload_n hx hb dX3_setWeight_0 rfl (lv_at hl 0 rfl) ?_
  refine lv_iload_n hx hb dX3_setWeight_1 rfl (lv_at hl 1 rfl) ?_
  rcases Classical.em (inR signer 4 = true) with x2_1 | x2_1
  · refine xo_v (exR_n x2_1) (vx_runV (As := [.int signer]) (rest := []) ⟨hx, hb, hml, hown, hts⟩ (c_X3_requireSigner l hst D cy h0 q A S signer) (cwV 1 hts gX3_setWeight_X3_requireSigner rfl rfl rfl (by decide +kernel) ⟨Nat.le_of_ble_eq_true rfl, Nat.le_of_ble_eq_true rfl⟩) (hI.preV (k0 := 0) rfl rfl) rfl rfl hl.1 rfl (lv_room (Nat.le_of_ble_eq_true rfl)) dX3_setWeight_2 (rm_ok (exR_n x2_1) (Nat.zero_le _) (Nat.zero_le _))) hI hS (fun H locs hI hS => ?_)
    obtain ⟨hj_signer, hk_signer⟩ := inR_c (by omega) x2_1
    refine lv_iload_n hx hb dX3_setWeight_5 rfl (lv_at hl 2 rfl) ?_
    refine lv_if_lt (tgt := 15) hx hb dX3_setWeight_6 (by decide) (fun c6_2 => ?_) (fun c6_2 => ?_)
    · exact r_throw (text := "no such weight") hx hb hst hown (by decide) (by decide) tg_IAE tb_IAE (hts (.classLink RX3 48 "java/lang/IllegalArgumentException") (List.mem_of_getElem? (i := 1) rfl)) (hts (.initialized "java/lang/IllegalArgumentException") (List.mem_of_getElem? (i := 2) rfl)) (fun w h => hts w (List.mem_cons_of_mem _ (List.mem_append_right _ h))) (by decide) hG hS (by rw [hml]; exact hl.1) (by first | (simp only [exSetWeight, x2_1, c6_2, ↓reduceIte, Bool.false_eq_true, reduceCtorEq]; done) | simp [exSetWeight, x2_1, c6_2]) dX3_setWeight_15 dX3_setWeight_18 dX3_setWeight_19 dX3_setWeight_21 dX3_setWeight_24 hout (Nat.le_of_ble_eq_true rfl) (Nat.le_of_ble_eq_true rfl) (Nat.le_refl _) (Nat.le_refl _) hlk
    · refine lv_iload_n hx hb dX3_setWeight_9 rfl (lv_at hl 2 rfl) ?_
      refine lv_bipush (v := 100) hx hb dX3_setWeight_10 (by decide) ?_
      refine lv_icmp_le (tgt := 25) hx hb dX3_setWeight_12 (by decide) (fun c12_3 => ?_) (fun c12_3 => ?_)
      · refine lv_aload_n hx hb dX3_setWeight_25 rfl (lv_at hl 0 rfl) ?_
        refine r_get (C := RX3) (T := TX3) (N := 7) (k := 3) (q0 := 0) (v := .ref (q 4)) hx hb hts hi3 hown hI rfl rfl (by decide) (hts (.fieldLink RX3 30 "Buildlots" "weights" "[I") (List.mem_of_getElem? (i := 3) rfl)) rfl rfl dX3_setWeight_26 ?_
        refine lv_iload_n hx hb dX3_setWeight_29 rfl (lv_at hl 1 rfl) ?_
        refine r_iald (q0 := 4) (j := (ix signer)) (n := 4) (f := (A 0)) hx hb hI rfl hk_signer (by omega) (by decide) dX3_setWeight_30 ?_
        refine lv_istore_n (lv' := [(3, .int (A 0 (ix signer))), (0, .ref (q 0)), (1, .int signer), (2, .int weight)]) hx hb dX3_setWeight_31 rfl hl (by decide) rfl (fun ls hl => ?_)
        refine lv_aload_n hx hb dX3_setWeight_32 rfl (lv_at hl 1 rfl) ?_
        refine r_get (C := RX3) (T := TX3) (N := 7) (k := 3) (q0 := 0) (v := .ref (q 4)) hx hb hts hi3 hown hI rfl rfl (by decide) (hts (.fieldLink RX3 30 "Buildlots" "weights" "[I") (List.mem_of_getElem? (i := 3) rfl)) rfl rfl dX3_setWeight_33 ?_
        refine lv_iload_n hx hb dX3_setWeight_36 rfl (lv_at hl 2 rfl) ?_
        refine lv_iload_n hx hb dX3_setWeight_37 rfl (lv_at hl 3 rfl) ?_
        have hS := hS.mono (B := qA 19 q) (fun _ h => h.elim)
        refine r_iast (w' := wX cy q (uA A 0 (upd (A 0) (ix signer) weight)) S) (q0 := 4) (j := (ix signer)) (n := 4) (f := (A 0)) hx hb hI hS hqA hh0 (qA_X hI) rfl hk_signer (by omega) (by decide) dX3_setWeight_38 rfl (fun H locs hI hS => ?_)
        refine lv_iload_n hx hb dX3_setWeight_39 rfl (lv_at hl 0 rfl) ?_
        exact end_xwi hx hb hr (by first | (simp only [exSetWeight, x2_1, c6_2, c12_3, ↓reduceIte, Bool.false_eq_true, reduceCtorEq]; done) | simp [exSetWeight, x2_1, c6_2, c12_3]) rfl hI hS dX3_setWeight_40 hlk
      · exact r_throw (text := "no such weight") hx hb hst hown (by decide) (by decide) tg_IAE tb_IAE (hts (.classLink RX3 48 "java/lang/IllegalArgumentException") (List.mem_of_getElem? (i := 1) rfl)) (hts (.initialized "java/lang/IllegalArgumentException") (List.mem_of_getElem? (i := 2) rfl)) (fun w h => hts w (List.mem_cons_of_mem _ (List.mem_append_right _ h))) (by decide) hG hS (by rw [hml]; exact hl.1) (by first | (simp only [exSetWeight, x2_1, c6_2, c12_3, ↓reduceIte, Bool.false_eq_true, reduceCtorEq]; done) | simp [exSetWeight, x2_1, c6_2, c12_3]) dX3_setWeight_15 dX3_setWeight_18 dX3_setWeight_19 dX3_setWeight_21 dX3_setWeight_24 hout (Nat.le_of_ble_eq_true rfl) (Nat.le_of_ble_eq_true rfl) (Nat.le_refl _) (Nat.le_refl _) hlk
  · refine xb_v (E := xIAE) (exR_s x2_1) (vx_runV (As := [.int signer]) (rest := []) ⟨hx, hb, hml, hown, hts⟩ (c_X3_requireSigner l hst D cy h0 q A S signer) (cwV 1 hts gX3_setWeight_X3_requireSigner rfl rfl rfl (by decide +kernel) ⟨Nat.le_of_ble_eq_true rfl, Nat.le_of_ble_eq_true rfl⟩) (hI.preV (k0 := 0) rfl rfl) rfl rfl hl.1 rfl (lv_room (Nat.le_of_ble_eq_true rfl)) dX3_setWeight_2 (rm_bad (ex' := exSetWeight signer weight) (exR_s x2_1) ((by first | (simp only [exSetWeight, x2_1, ↓reduceIte, Bool.false_eq_true, reduceCtorEq]; done) | simp [exSetWeight, x2_1])))) hI hS (fun ce q9 H locs hI hS hce hcv hcl => ?_)
    exact r_out (by first | (simp only [exSetWeight, x2_1, ↓reduceIte, Bool.false_eq_true, reduceCtorEq]; done) | simp [exSetWeight, x2_1]) hS hout hlk hce hcv hcl

set_option maxHeartbeats 4000000 in
set_option maxRecDepth 100000 in
theorem c_X3_setThreshold (l : Launch) (hst : l.stackTraces = false) (D : va_G) (cy : Nat → ClassId) (h0 : Nat) (q : Nat → Nat) (A : Nat → Nat → Int32) (S : Nat → Int32) (name : Int32) (thr : Int32) : vx_Met l yX3_setThreshold wsX3_setThreshold (rmX (exSetThr name thr) 7 103) (va_Pc [.ref (q 0), .int name, .int thr] (pI D cy h0 (wX cy q A S))) (xwI (exSetThr name thr) (A 1 (ix name)) D cy h0 (wX cy q (uA A 1 (upd (A 1) (ix name) thr)) S) (qA 19 q)) (xx (exSetThr name thr)) (c1 (exSetThr name thr)) (c6 (exSetThr name thr)) (qA 19 q) := by
  refine vx_ofW (cc := cX3_setThreshold) (maxL := 4) (ret := (some .int)) (by decide) rfl ?_
  intro p e s m args below meth c s₁ B hml hout hv
  obtain ⟨rfl, hI⟩ := hv
  have hx := B.exec
  have hb := B.bytes
  have hr := B.returns
  have hts := atoms_spec (ws := wsX3_setThreshold) B.pre
  have hown : s.vm.findClass RX3 = some m.cls := findClass_of_methodNamed B.named
  have hlk := B.notSynchronized
  have hI : IH D cy h0 (wX cy q A S) s s.heap := hI
  have hG := hI.1
  have hqA := hA_X hI
  have hh0 : h0 ≤ s.heap.size := hI.1.2.2.2
  have hS : va_S nof s.heap s.heap [] := va_S.rf
  have hi3 : ∀ w ∈ wsX30, w ∈ wsX3_setThreshold := by decide +kernel
  have hl := lv_entry ([.ref (q 0), .int name, .int thr]) (n := 4) (Nat.le_of_ble_eq_true rfl)
  rw [lg_entry_eq]
  generalize (lg_sl ([.ref (q 0), .int name, .int thr]) ++ List.replicate (4 - (lg_sl ([.ref (q 0), .int name, .int thr])).length) Slot.unset).toArray = ls at hl ⊢
  have hl : lv_has ls 4 [(0, .ref (q 0)), (1, .int name), (2, .int thr)] := hl
  refine lv_aload_n hx hb dX3_setThreshold_0 rfl (lv_at hl 0 rfl) ?_
  refine lv_iload_n hx hb dX3_setThreshold_1 rfl (lv_at hl 1 rfl) ?_
  rcases Classical.em (inR name 5 = true) with x2_1 | x2_1
  · refine xo_v (exR_n x2_1) (vx_runV (As := [.int name]) (rest := []) ⟨hx, hb, hml, hown, hts⟩ (c_X3_requireName l hst D cy h0 q A S name) (cwV 1 hts gX3_setThreshold_X3_requireName rfl rfl rfl (by decide +kernel) ⟨Nat.le_of_ble_eq_true rfl, Nat.le_of_ble_eq_true rfl⟩) (hI.preV (k0 := 0) rfl rfl) rfl rfl hl.1 rfl (lv_room (Nat.le_of_ble_eq_true rfl)) dX3_setThreshold_2 (rm_ok (exR_n x2_1) (Nat.zero_le _) (Nat.zero_le _))) hI hS (fun H locs hI hS => ?_)
    obtain ⟨hj_name, hk_name⟩ := inR_c (by omega) x2_1
    refine lv_iload_n hx hb dX3_setThreshold_5 rfl (lv_at hl 2 rfl) ?_
    refine lv_iconst (v := 1) hx hb dX3_setThreshold_6 (by decide) ?_
    refine lv_icmp_lt (tgt := 17) hx hb dX3_setThreshold_7 (by decide) (fun c7_2 => ?_) (fun c7_2 => ?_)
    · exact r_throw (text := "no such threshold") hx hb hst hown (by decide) (by decide) tg_IAE tb_IAE (hts (.classLink RX3 48 "java/lang/IllegalArgumentException") (List.mem_of_getElem? (i := 1) rfl)) (hts (.initialized "java/lang/IllegalArgumentException") (List.mem_of_getElem? (i := 2) rfl)) (fun w h => hts w (List.mem_cons_of_mem _ (List.mem_append_right _ h))) (by decide) hG hS (by rw [hml]; exact hl.1) (by first | (simp only [exSetThr, x2_1, c7_2, ↓reduceIte, Bool.false_eq_true, reduceCtorEq]; done) | simp [exSetThr, x2_1, c7_2]) dX3_setThreshold_17 dX3_setThreshold_20 dX3_setThreshold_21 dX3_setThreshold_23 dX3_setThreshold_26 hout (Nat.le_of_ble_eq_true rfl) (Nat.le_of_ble_eq_true rfl) (Nat.le_refl _) (Nat.le_refl _) hlk
    · refine lv_iload_n hx hb dX3_setThreshold_10 rfl (lv_at hl 2 rfl) ?_
      refine lv_sipush (v := 400) hx hb dX3_setThreshold_11 (by decide) ?_
      refine lv_icmp_le (tgt := 27) hx hb dX3_setThreshold_14 (by decide) (fun c14_3 => ?_) (fun c14_3 => ?_)
      · refine lv_aload_n hx hb dX3_setThreshold_27 rfl (lv_at hl 0 rfl) ?_
        refine r_get (C := RX3) (T := TX3) (N := 7) (k := 4) (q0 := 0) (v := .ref (q 5)) hx hb hts hi3 hown hI rfl rfl (by decide) (hts (.fieldLink RX3 34 "Buildlots" "thresholds" "[I") (List.mem_of_getElem? (i := 3) rfl)) rfl rfl dX3_setThreshold_28 ?_
        refine lv_iload_n hx hb dX3_setThreshold_31 rfl (lv_at hl 1 rfl) ?_
        refine r_iald (q0 := 5) (j := (ix name)) (n := 5) (f := (A 1)) hx hb hI rfl hk_name (by omega) (by decide) dX3_setThreshold_32 ?_
        refine lv_istore_n (lv' := [(3, .int (A 1 (ix name))), (0, .ref (q 0)), (1, .int name), (2, .int thr)]) hx hb dX3_setThreshold_33 rfl hl (by decide) rfl (fun ls hl => ?_)
        refine lv_aload_n hx hb dX3_setThreshold_34 rfl (lv_at hl 1 rfl) ?_
        refine r_get (C := RX3) (T := TX3) (N := 7) (k := 4) (q0 := 0) (v := .ref (q 5)) hx hb hts hi3 hown hI rfl rfl (by decide) (hts (.fieldLink RX3 34 "Buildlots" "thresholds" "[I") (List.mem_of_getElem? (i := 3) rfl)) rfl rfl dX3_setThreshold_35 ?_
        refine lv_iload_n hx hb dX3_setThreshold_38 rfl (lv_at hl 2 rfl) ?_
        refine lv_iload_n hx hb dX3_setThreshold_39 rfl (lv_at hl 3 rfl) ?_
        have hS := hS.mono (B := qA 19 q) (fun _ h => h.elim)
        refine r_iast (w' := wX cy q (uA A 1 (upd (A 1) (ix name) thr)) S) (q0 := 5) (j := (ix name)) (n := 5) (f := (A 1)) hx hb hI hS hqA hh0 (qA_X hI) rfl hk_name (by omega) (by decide) dX3_setThreshold_40 rfl (fun H locs hI hS => ?_)
        refine lv_iload_n hx hb dX3_setThreshold_41 rfl (lv_at hl 0 rfl) ?_
        exact end_xwi hx hb hr (by first | (simp only [exSetThr, x2_1, c7_2, c14_3, ↓reduceIte, Bool.false_eq_true, reduceCtorEq]; done) | simp [exSetThr, x2_1, c7_2, c14_3]) rfl hI hS dX3_setThreshold_42 hlk
      · exact r_throw (text := "no such threshold") hx hb hst hown (by decide) (by decide) tg_IAE tb_IAE (hts (.classLink RX3 48 "java/lang/IllegalArgumentException") (List.mem_of_getElem? (i := 1) rfl)) (hts (.initialized "java/lang/IllegalArgumentException") (List.mem_of_getElem? (i := 2) rfl)) (fun w h => hts w (List.mem_cons_of_mem _ (List.mem_append_right _ h))) (by decide) hG hS (by rw [hml]; exact hl.1) (by first | (simp only [exSetThr, x2_1, c7_2, c14_3, ↓reduceIte, Bool.false_eq_true, reduceCtorEq]; done) | simp [exSetThr, x2_1, c7_2, c14_3]) dX3_setThreshold_17 dX3_setThreshold_20 dX3_setThreshold_21 dX3_setThreshold_23 dX3_setThreshold_26 hout (Nat.le_of_ble_eq_true rfl) (Nat.le_of_ble_eq_true rfl) (Nat.le_refl _) (Nat.le_refl _) hlk
  · refine xb_v (E := xIAE) (exR_s x2_1) (vx_runV (As := [.int name]) (rest := []) ⟨hx, hb, hml, hown, hts⟩ (c_X3_requireName l hst D cy h0 q A S name) (cwV 1 hts gX3_setThreshold_X3_requireName rfl rfl rfl (by decide +kernel) ⟨Nat.le_of_ble_eq_true rfl, Nat.le_of_ble_eq_true rfl⟩) (hI.preV (k0 := 0) rfl rfl) rfl rfl hl.1 rfl (lv_room (Nat.le_of_ble_eq_true rfl)) dX3_setThreshold_2 (rm_bad (ex' := exSetThr name thr) (exR_s x2_1) ((by first | (simp only [exSetThr, x2_1, ↓reduceIte, Bool.false_eq_true, reduceCtorEq]; done) | simp [exSetThr, x2_1])))) hI hS (fun ce q9 H locs hI hS hce hcv hcl => ?_)
    exact r_out (by first | (simp only [exSetThr, x2_1, ↓reduceIte, Bool.false_eq_true, reduceCtorEq]; done) | simp [exSetThr, x2_1]) hS hout hlk hce hcv hcl

set_option maxHeartbeats 4000000 in
set_option maxRecDepth 100000 in
theorem c_X3_build (l : Launch) (hst : l.stackTraces = false) (D : va_G) (cy : Nat → ClassId) (h0 : Nat) (q : Nat → Nat) (A : Nat → Nat → Int32) (S : Nat → Int32) (name : Int32) (inputs : Int32) (res : Int32) (nb : Nat) (hnb : nb ≤ 24) (hcb : S 5 = nI nb) : vx_Met l yX3_build wsX3_build (rmX (exBuild A S name inputs nb) 7 103) (va_Pc [.ref (q 0), .int name, .int inputs, .int res] (pI D cy h0 (wX cy q A S))) (xwI (exBuild A S name inputs nb) (S 5) D cy h0 (wX cy q (uA (uA (uA (uA A 5 (upd (A 5) nb name)) 6 (upd (A 6) nb (1 + cF (upd (A 5) nb name) name nb))) 7 (upd (A 7) nb (wtF (A 7) inputs nb))) 8 (upd (A 8) nb res)) (uS S 5 (S 5 + 1))) (qA 19 q)) (xx (exBuild A S name inputs nb)) (c1 (exBuild A S name inputs nb)) (c6 (exBuild A S name inputs nb)) (qA 19 q) := by
  refine vx_ofW (cc := cX3_build) (maxL := 4) (ret := (some .int)) (by decide) rfl ?_
  intro p e s m args below meth c s₁ B hml hout hv
  obtain ⟨rfl, hI⟩ := hv
  have hx := B.exec
  have hb := B.bytes
  have hr := B.returns
  have hts := atoms_spec (ws := wsX3_build) B.pre
  have hown : s.vm.findClass RX3 = some m.cls := findClass_of_methodNamed B.named
  have hlk := B.notSynchronized
  have hI : IH D cy h0 (wX cy q A S) s s.heap := hI
  have hG := hI.1
  have hqA := hA_X hI
  have hh0 : h0 ≤ s.heap.size := hI.1.2.2.2
  have hS : va_S nof s.heap s.heap [] := va_S.rf
  have hi0 : ∀ w ∈ wsX00, w ∈ wsX3_build := by decide +kernel
  have hi3 : ∀ w ∈ wsX30, w ∈ wsX3_build := by decide +kernel
  have hl := lv_entry ([.ref (q 0), .int name, .int inputs, .int res]) (n := 4) (Nat.le_of_ble_eq_true rfl)
  rw [lg_entry_eq]
  generalize (lg_sl ([.ref (q 0), .int name, .int inputs, .int res]) ++ List.replicate (4 - (lg_sl ([.ref (q 0), .int name, .int inputs, .int res])).length) Slot.unset).toArray = ls at hl ⊢
  have hl : lv_has ls 4 [(0, .ref (q 0)), (1, .int name), (2, .int inputs), (3, .int res)] := hl
  refine lv_aload_n hx hb dX3_build_0 rfl (lv_at hl 0 rfl) ?_
  refine lv_iload_n hx hb dX3_build_1 rfl (lv_at hl 1 rfl) ?_
  rcases Classical.em (inR name 5 = true) with x2_1 | x2_1
  · refine xo_v (exR_n x2_1) (vx_runV (As := [.int name]) (rest := []) ⟨hx, hb, hml, hown, hts⟩ (c_X3_requireName l hst D cy h0 q A S name) (cwV 1 hts gX3_build_X3_requireName rfl rfl rfl (by decide +kernel) ⟨Nat.le_of_ble_eq_true rfl, Nat.le_of_ble_eq_true rfl⟩) (hI.preV (k0 := 0) rfl rfl) rfl rfl hl.1 rfl (lv_room (Nat.le_of_ble_eq_true rfl)) dX3_build_2 (rm_ok (exR_n x2_1) (Nat.zero_le _) (Nat.zero_le _))) hI hS (fun H locs hI hS => ?_)
    obtain ⟨hj_name, hk_name⟩ := inR_c (by omega) x2_1
    refine lv_iload_n hx hb dX3_build_5 rfl (lv_at hl 2 rfl) ?_
    refine lv_aload_n hx hb dX3_build_6 rfl (lv_at hl 0 rfl) ?_
    refine r_get (C := RX3) (T := TX3) (N := 7) (k := 1) (q0 := 0) (v := .ref (q 2)) hx hb hts hi3 hown hI rfl rfl (by decide) (hts (.fieldLink RX3 19 "Buildlots" "builds" "LBuildlots$Builds;") (List.mem_of_getElem? (i := 7) rfl)) rfl rfl dX3_build_7 ?_
    refine ro_i (va_runVN (As := []) (rest := [.int inputs]) ⟨hx, hb, hml, hown, hts⟩ (c_X0_all l D cy h0 q A S) ⟨va_cnB (host := RX3) 0 hts gX3_build_X0_all_n113 rfl rfl rfl (hG.1.2.1 (RX3, 113, yX0_all) (List.mem_of_getElem? (i := 10) rfl)) (hts (.initialized RX0) (List.mem_of_getElem? (i := 14) rfl)) (by decide +kernel) ⟨Nat.le_of_ble_eq_true rfl, Nat.le_of_ble_eq_true rfl⟩, (hts (.instanceMethod yX0_all) (List.mem_of_getElem? (i := 13) rfl)), (hts (.selects RX0 yX0_all yX0_all) (List.mem_of_getElem? (i := 15) rfl))⟩ (hI.preV (k0 := 2) rfl rfl) rfl rfl hl.1 rfl (lv_room (Nat.le_of_ble_eq_true rfl)) dX3_build_10 ⟨Nat.le_of_ble_eq_true rfl, Nat.le_of_ble_eq_true rfl⟩) hI hS (fun H locs hI hS => ?_)
    refine lv_iconst (v := (-1)) hx hb dX3_build_13 (by decide) ?_
    refine lv_ixor hx hb dX3_build_14 ?_
    refine lv_iand hx hb dX3_build_15 ?_
    refine lv_if_eq (tgt := 29) hx hb dX3_build_16 (by decide) (fun c16_2 => ?_) (fun c16_2 => ?_)
    · refine lv_iload_n hx hb dX3_build_29 rfl (lv_at hl 2 rfl) ?_
      refine lv_aload_n hx hb dX3_build_30 rfl (lv_at hl 0 rfl) ?_
      refine r_get (C := RX3) (T := TX3) (N := 7) (k := 1) (q0 := 0) (v := .ref (q 2)) hx hb hts hi3 hown hI rfl rfl (by decide) (hts (.fieldLink RX3 19 "Buildlots" "builds" "LBuildlots$Builds;") (List.mem_of_getElem? (i := 7) rfl)) rfl rfl dX3_build_31 ?_
      refine ro_i (va_runVN (As := []) (rest := [.int inputs]) ⟨hx, hb, hml, hown, hts⟩ (c_X0_recalled l D cy h0 q A S nb hnb hcb) ⟨va_cnB (host := RX3) 0 hts gX3_build_X0_recalled_n118 rfl rfl rfl (hG.1.2.1 (RX3, 118, yX0_recalled) (List.mem_of_getElem? (i := 12) rfl)) (hts (.initialized RX0) (List.mem_of_getElem? (i := 14) rfl)) (by decide +kernel) ⟨Nat.le_of_ble_eq_true rfl, Nat.le_of_ble_eq_true rfl⟩, (hts (.instanceMethod yX0_recalled) (List.mem_of_getElem? (i := 20) rfl)), (hts (.selects RX0 yX0_recalled yX0_recalled) (List.mem_of_getElem? (i := 21) rfl))⟩ (hI.preV (k0 := 2) rfl rfl) rfl rfl hl.1 rfl (lv_room (Nat.le_of_ble_eq_true rfl)) dX3_build_34 ⟨Nat.le_of_ble_eq_true rfl, Nat.le_of_ble_eq_true rfl⟩) hI hS (fun H locs hI hS => ?_)
      refine lv_iand hx hb dX3_build_37 ?_
      refine lv_if_eq (tgt := 51) hx hb dX3_build_38 (by decide) (fun c38_3 => ?_) (fun c38_3 => ?_)
      · refine lv_aload_n hx hb dX3_build_51 rfl (lv_at hl 0 rfl) ?_
        refine r_get (C := RX3) (T := TX3) (N := 7) (k := 1) (q0 := 0) (v := .ref (q 2)) hx hb hts hi3 hown hI rfl rfl (by decide) (hts (.fieldLink RX3 19 "Buildlots" "builds" "LBuildlots$Builds;") (List.mem_of_getElem? (i := 7) rfl)) rfl rfl dX3_build_52 ?_
        refine r_getN (C := RX0) (T := TX0) (N := 10) (k := 9) (q0 := 2) (v := .int (S 5)) hx hb hts hi0 hown hI rfl rfl (by decide) (List.mem_of_getElem? (i := 0) rfl) rfl rfl dX3_build_55 ?_
        refine lv_bipush (v := 24) hx hb dX3_build_58 (by decide) ?_
        refine lv_icmp_lt (tgt := 73) hx hb dX3_build_60 (by decide) (fun c60_4 => ?_) (fun c60_4 => ?_)
        · refine lv_aload_n hx hb dX3_build_73 rfl (lv_at hl 0 rfl) ?_
          refine r_get (C := RX3) (T := TX3) (N := 7) (k := 1) (q0 := 0) (v := .ref (q 2)) hx hb hts hi3 hown hI rfl rfl (by decide) (hts (.fieldLink RX3 19 "Buildlots" "builds" "LBuildlots$Builds;") (List.mem_of_getElem? (i := 7) rfl)) rfl rfl dX3_build_74 ?_
          refine lv_iload_n hx hb dX3_build_77 rfl (lv_at hl 1 rfl) ?_
          refine lv_iload_n hx hb dX3_build_78 rfl (lv_at hl 2 rfl) ?_
          refine lv_iload_n hx hb dX3_build_79 rfl (lv_at hl 3 rfl) ?_
          have hS := hS.mono (B := qA 19 q) (fun _ h => h.elim)
          refine rw_i (w' := wX cy q (uA (uA (uA (uA A 5 (upd (A 5) nb name)) 6 (upd (A 6) nb (1 + cF (upd (A 5) nb name) name nb))) 7 (upd (A 7) nb (wtF (A 7) inputs nb))) 8 (upd (A 8) nb res)) (uS S 5 (S 5 + 1))) (va_runVN (As := [.int name, .int inputs, .int res]) (rest := []) ⟨hx, hb, hml, hown, hts⟩ (c_X0_append l D cy h0 q A S name inputs res nb hnb hcb (lt_c (n := 24) hcb c60_4 (by omega) (by decide))) ⟨va_cnB (host := RX3) 3 hts gX3_build_X0_append_n129 rfl rfl rfl (hG.1.2.1 (RX3, 129, yX0_append) (List.mem_of_getElem? (i := 13) rfl)) (hts (.initialized RX0) (List.mem_of_getElem? (i := 14) rfl)) (by decide +kernel) ⟨Nat.le_of_ble_eq_true rfl, Nat.le_of_ble_eq_true rfl⟩, (hts (.instanceMethod yX0_append) (List.mem_of_getElem? (i := 25) rfl)), (hts (.selects RX0 yX0_append yX0_append) (List.mem_of_getElem? (i := 26) rfl))⟩ (hI.preV (k0 := 2) rfl rfl) rfl rfl hl.1 rfl (lv_room (Nat.le_of_ble_eq_true rfl)) dX3_build_80 ⟨Nat.le_of_ble_eq_true rfl, Nat.le_of_ble_eq_true rfl⟩) hI hS (fun _ h => h) hqA (fun H locs hI hS => ?_)
          exact end_xwi hx hb hr (by first | (simp only [exBuild, x2_1, c16_2, c38_3, c60_4, ↓reduceIte, Bool.false_eq_true, reduceCtorEq]; done) | simp [exBuild, x2_1, c16_2, c38_3, c60_4]) rfl hI hS dX3_build_83 hlk
        · exact r_throw (text := "no room for another build") hx hb hst hown (by decide) (by decide) tg_ISE tb_ISE (hts (.classLink RX3 58 "java/lang/IllegalStateException") (List.mem_of_getElem? (i := 5) rfl)) (hts (.initialized "java/lang/IllegalStateException") (List.mem_of_getElem? (i := 6) rfl)) (fun w h => hts w (List.mem_cons_of_mem _ (List.mem_append_right _ h))) (by decide) hG hS (by rw [hml]; exact hl.1) (by first | (simp only [exBuild, x2_1, c16_2, c38_3, c60_4, ↓reduceIte, Bool.false_eq_true, reduceCtorEq]; done) | simp [exBuild, x2_1, c16_2, c38_3, c60_4]) dX3_build_63 dX3_build_66 dX3_build_67 dX3_build_69 dX3_build_72 hout (Nat.le_of_ble_eq_true rfl) (Nat.le_of_ble_eq_true rfl) (Nat.le_refl _) (Nat.le_refl _) hlk
      · exact r_throw (text := "an input is recalled") hx hb hst hown (by decide) (by decide) tg_UOE tb_UOE (hts (.classLink RX3 121 "java/lang/UnsupportedOperationException") (List.mem_of_getElem? (i := 3) rfl)) (hts (.initialized "java/lang/UnsupportedOperationException") (List.mem_of_getElem? (i := 4) rfl)) (fun w h => hts w (List.mem_cons_of_mem _ (List.mem_append_left _ (List.mem_append_right _ h)))) (by decide) hG hS (by rw [hml]; exact hl.1) (by first | (simp only [exBuild, x2_1, c16_2, c38_3, ↓reduceIte, Bool.false_eq_true, reduceCtorEq]; done) | simp [exBuild, x2_1, c16_2, c38_3]) dX3_build_41 dX3_build_44 dX3_build_45 dX3_build_47 dX3_build_50 hout (Nat.le_of_ble_eq_true rfl) (Nat.le_of_ble_eq_true rfl) (Nat.le_refl _) (Nat.le_refl _) hlk
    · exact r_throw (text := "an input is no build") hx hb hst hown (by decide) (by decide) tg_IAE tb_IAE (hts (.classLink RX3 48 "java/lang/IllegalArgumentException") (List.mem_of_getElem? (i := 1) rfl)) (hts (.initialized "java/lang/IllegalArgumentException") (List.mem_of_getElem? (i := 2) rfl)) (fun w h => hts w (List.mem_cons_of_mem _ (List.mem_append_left _ (List.mem_append_left _ (List.mem_append_right _ h))))) (by decide) hG hS (by rw [hml]; exact hl.1) (by first | (simp only [exBuild, x2_1, c16_2, ↓reduceIte, Bool.false_eq_true, reduceCtorEq]; done) | simp [exBuild, x2_1, c16_2]) dX3_build_19 dX3_build_22 dX3_build_23 dX3_build_25 dX3_build_28 hout (Nat.le_of_ble_eq_true rfl) (Nat.le_of_ble_eq_true rfl) (Nat.le_refl _) (Nat.le_refl _) hlk
  · refine xb_v (E := xIAE) (exR_s x2_1) (vx_runV (As := [.int name]) (rest := []) ⟨hx, hb, hml, hown, hts⟩ (c_X3_requireName l hst D cy h0 q A S name) (cwV 1 hts gX3_build_X3_requireName rfl rfl rfl (by decide +kernel) ⟨Nat.le_of_ble_eq_true rfl, Nat.le_of_ble_eq_true rfl⟩) (hI.preV (k0 := 0) rfl rfl) rfl rfl hl.1 rfl (lv_room (Nat.le_of_ble_eq_true rfl)) dX3_build_2 (rm_bad (ex' := exBuild A S name inputs nb) (exR_s x2_1) ((by first | (simp only [exBuild, x2_1, ↓reduceIte, Bool.false_eq_true, reduceCtorEq]; done) | simp [exBuild, x2_1])))) hI hS (fun ce q9 H locs hI hS hce hcv hcl => ?_)
    exact r_out (by first | (simp only [exBuild, x2_1, ↓reduceIte, Bool.false_eq_true, reduceCtorEq]; done) | simp [exBuild, x2_1]) hS hout hlk hce hcv hcl

set_option maxHeartbeats 4000000 in
set_option maxRecDepth 100000 in
theorem c_X3_nameOf (l : Launch) (hst : l.stackTraces = false) (D : va_G) (cy : Nat → ClassId) (h0 : Nat) (q : Nat → Nat) (A : Nat → Nat → Int32) (S : Nat → Int32) (b : Int32) (nb : Nat) (hnb : nb ≤ 24) (hcb : S 5 = nI nb) : vx_Met l yX3_nameOf wsX3_nameOf (rmX (exR b nb xIOB) 7 103) (va_Pc [.ref (q 0), .int b] (pI D cy h0 (wX cy q A S))) (xoI (exR b nb xIOB) (A 5 (ix b))) (xx (exR b nb xIOB)) (c1 (exR b nb xIOB)) (c6 (exR b nb xIOB)) nof := by
  refine vx_ofW (cc := cX3_nameOf) (maxL := 2) (ret := (some .int)) (by decide) rfl ?_
  intro p e s m args below meth c s₁ B hml hout hv
  obtain ⟨rfl, hI⟩ := hv
  have hx := B.exec
  have hb := B.bytes
  have hr := B.returns
  have hts := atoms_spec (ws := wsX3_nameOf) B.pre
  have hown : s.vm.findClass RX3 = some m.cls := findClass_of_methodNamed B.named
  have hlk := B.notSynchronized
  have hI : IH D cy h0 (wX cy q A S) s s.heap := hI
  have hG := hI.1
  have hS : va_S nof s.heap s.heap [] := va_S.rf
  have hi0 : ∀ w ∈ wsX00, w ∈ wsX3_nameOf := by decide +kernel
  have hi3 : ∀ w ∈ wsX30, w ∈ wsX3_nameOf := by decide +kernel
  have hl := lv_entry ([.ref (q 0), .int b]) (n := 2) (Nat.le_of_ble_eq_true rfl)
  rw [lg_entry_eq]
  generalize (lg_sl ([.ref (q 0), .int b]) ++ List.replicate (2 - (lg_sl ([.ref (q 0), .int b])).length) Slot.unset).toArray = ls at hl ⊢
  have hl : lv_has ls 2 [(0, .ref (q 0)), (1, .int b)] := hl
  refine lv_aload_n hx hb dX3_nameOf_0 rfl (lv_at hl 0 rfl) ?_
  refine lv_iload_n hx hb dX3_nameOf_1 rfl (lv_at hl 1 rfl) ?_
  rcases Classical.em (inR b nb = true) with x2_1 | x2_1
  · refine xo_v (exR_n x2_1) (vx_runV (As := [.int b]) (rest := []) ⟨hx, hb, hml, hown, hts⟩ (c_X3_requireBuild l hst D cy h0 q A S b nb hnb hcb) (cwV 1 hts gX3_nameOf_X3_requireBuild rfl rfl rfl (by decide +kernel) ⟨Nat.le_of_ble_eq_true rfl, Nat.le_of_ble_eq_true rfl⟩) (hI.preV (k0 := 0) rfl rfl) rfl rfl hl.1 rfl (lv_room (Nat.le_of_ble_eq_true rfl)) dX3_nameOf_2 (rm_ok (exR_n x2_1) (Nat.zero_le _) (Nat.zero_le _))) hI hS (fun H locs hI hS => ?_)
    obtain ⟨hj_b, hk_b⟩ := inR_c (by omega) x2_1
    refine lv_aload_n hx hb dX3_nameOf_5 rfl (lv_at hl 0 rfl) ?_
    refine r_get (C := RX3) (T := TX3) (N := 7) (k := 1) (q0 := 0) (v := .ref (q 2)) hx hb hts hi3 hown hI rfl rfl (by decide) (hts (.fieldLink RX3 19 "Buildlots" "builds" "LBuildlots$Builds;") (List.mem_of_getElem? (i := 1) rfl)) rfl rfl dX3_nameOf_6 ?_
    refine r_getN (C := RX0) (T := TX0) (N := 10) (k := 0) (q0 := 2) (v := .ref (q 9)) hx hb hts hi0 hown hI rfl rfl (by decide) (List.mem_of_getElem? (i := 1) rfl) rfl rfl dX3_nameOf_9 ?_
    refine lv_iload_n hx hb dX3_nameOf_12 rfl (lv_at hl 1 rfl) ?_
    refine r_iald (q0 := 9) (j := (ix b)) (n := 24) (f := (A 5)) hx hb hI rfl hk_b (by omega) (by decide) dX3_nameOf_13 ?_
    exact end_xoi hx hb hr (by first | (simp only [exR, x2_1, ↓reduceIte, Bool.false_eq_true, reduceCtorEq]; done) | simp [exR, x2_1]) rfl hS dX3_nameOf_14 hlk
  · refine xb_v (E := xIOB) (exR_s x2_1) (vx_runV (As := [.int b]) (rest := []) ⟨hx, hb, hml, hown, hts⟩ (c_X3_requireBuild l hst D cy h0 q A S b nb hnb hcb) (cwV 1 hts gX3_nameOf_X3_requireBuild rfl rfl rfl (by decide +kernel) ⟨Nat.le_of_ble_eq_true rfl, Nat.le_of_ble_eq_true rfl⟩) (hI.preV (k0 := 0) rfl rfl) rfl rfl hl.1 rfl (lv_room (Nat.le_of_ble_eq_true rfl)) dX3_nameOf_2 (rm_bad (ex' := exR b nb xIOB) (exR_s x2_1) ((by first | (simp only [exR, x2_1, ↓reduceIte, Bool.false_eq_true, reduceCtorEq]; done) | simp [exR, x2_1])))) hI hS (fun ce q9 H locs hI hS hce hcv hcl => ?_)
    exact r_out (by first | (simp only [exR, x2_1, ↓reduceIte, Bool.false_eq_true, reduceCtorEq]; done) | simp [exR, x2_1]) hS hout hlk hce hcv hcl

set_option maxHeartbeats 4000000 in
set_option maxRecDepth 100000 in
theorem c_X3_version (l : Launch) (hst : l.stackTraces = false) (D : va_G) (cy : Nat → ClassId) (h0 : Nat) (q : Nat → Nat) (A : Nat → Nat → Int32) (S : Nat → Int32) (b : Int32) (nb : Nat) (hnb : nb ≤ 24) (hcb : S 5 = nI nb) : vx_Met l yX3_version wsX3_version (rmX (exR b nb xIOB) 7 103) (va_Pc [.ref (q 0), .int b] (pI D cy h0 (wX cy q A S))) (xoI (exR b nb xIOB) (A 6 (ix b))) (xx (exR b nb xIOB)) (c1 (exR b nb xIOB)) (c6 (exR b nb xIOB)) nof := by
  refine vx_ofW (cc := cX3_version) (maxL := 2) (ret := (some .int)) (by decide) rfl ?_
  intro p e s m args below meth c s₁ B hml hout hv
  obtain ⟨rfl, hI⟩ := hv
  have hx := B.exec
  have hb := B.bytes
  have hr := B.returns
  have hts := atoms_spec (ws := wsX3_version) B.pre
  have hown : s.vm.findClass RX3 = some m.cls := findClass_of_methodNamed B.named
  have hlk := B.notSynchronized
  have hI : IH D cy h0 (wX cy q A S) s s.heap := hI
  have hG := hI.1
  have hS : va_S nof s.heap s.heap [] := va_S.rf
  have hi0 : ∀ w ∈ wsX00, w ∈ wsX3_version := by decide +kernel
  have hi3 : ∀ w ∈ wsX30, w ∈ wsX3_version := by decide +kernel
  have hl := lv_entry ([.ref (q 0), .int b]) (n := 2) (Nat.le_of_ble_eq_true rfl)
  rw [lg_entry_eq]
  generalize (lg_sl ([.ref (q 0), .int b]) ++ List.replicate (2 - (lg_sl ([.ref (q 0), .int b])).length) Slot.unset).toArray = ls at hl ⊢
  have hl : lv_has ls 2 [(0, .ref (q 0)), (1, .int b)] := hl
  refine lv_aload_n hx hb dX3_version_0 rfl (lv_at hl 0 rfl) ?_
  refine lv_iload_n hx hb dX3_version_1 rfl (lv_at hl 1 rfl) ?_
  rcases Classical.em (inR b nb = true) with x2_1 | x2_1
  · refine xo_v (exR_n x2_1) (vx_runV (As := [.int b]) (rest := []) ⟨hx, hb, hml, hown, hts⟩ (c_X3_requireBuild l hst D cy h0 q A S b nb hnb hcb) (cwV 1 hts gX3_version_X3_requireBuild rfl rfl rfl (by decide +kernel) ⟨Nat.le_of_ble_eq_true rfl, Nat.le_of_ble_eq_true rfl⟩) (hI.preV (k0 := 0) rfl rfl) rfl rfl hl.1 rfl (lv_room (Nat.le_of_ble_eq_true rfl)) dX3_version_2 (rm_ok (exR_n x2_1) (Nat.zero_le _) (Nat.zero_le _))) hI hS (fun H locs hI hS => ?_)
    obtain ⟨hj_b, hk_b⟩ := inR_c (by omega) x2_1
    refine lv_aload_n hx hb dX3_version_5 rfl (lv_at hl 0 rfl) ?_
    refine r_get (C := RX3) (T := TX3) (N := 7) (k := 1) (q0 := 0) (v := .ref (q 2)) hx hb hts hi3 hown hI rfl rfl (by decide) (hts (.fieldLink RX3 19 "Buildlots" "builds" "LBuildlots$Builds;") (List.mem_of_getElem? (i := 1) rfl)) rfl rfl dX3_version_6 ?_
    refine r_getN (C := RX0) (T := TX0) (N := 10) (k := 1) (q0 := 2) (v := .ref (q 10)) hx hb hts hi0 hown hI rfl rfl (by decide) (List.mem_of_getElem? (i := 2) rfl) rfl rfl dX3_version_9 ?_
    refine lv_iload_n hx hb dX3_version_12 rfl (lv_at hl 1 rfl) ?_
    refine r_iald (q0 := 10) (j := (ix b)) (n := 24) (f := (A 6)) hx hb hI rfl hk_b (by omega) (by decide) dX3_version_13 ?_
    exact end_xoi hx hb hr (by first | (simp only [exR, x2_1, ↓reduceIte, Bool.false_eq_true, reduceCtorEq]; done) | simp [exR, x2_1]) rfl hS dX3_version_14 hlk
  · refine xb_v (E := xIOB) (exR_s x2_1) (vx_runV (As := [.int b]) (rest := []) ⟨hx, hb, hml, hown, hts⟩ (c_X3_requireBuild l hst D cy h0 q A S b nb hnb hcb) (cwV 1 hts gX3_version_X3_requireBuild rfl rfl rfl (by decide +kernel) ⟨Nat.le_of_ble_eq_true rfl, Nat.le_of_ble_eq_true rfl⟩) (hI.preV (k0 := 0) rfl rfl) rfl rfl hl.1 rfl (lv_room (Nat.le_of_ble_eq_true rfl)) dX3_version_2 (rm_bad (ex' := exR b nb xIOB) (exR_s x2_1) ((by first | (simp only [exR, x2_1, ↓reduceIte, Bool.false_eq_true, reduceCtorEq]; done) | simp [exR, x2_1])))) hI hS (fun ce q9 H locs hI hS hce hcv hcl => ?_)
    exact r_out (by first | (simp only [exR, x2_1, ↓reduceIte, Bool.false_eq_true, reduceCtorEq]; done) | simp [exR, x2_1]) hS hout hlk hce hcv hcl

set_option maxHeartbeats 4000000 in
set_option maxRecDepth 100000 in
theorem c_X3_uses (l : Launch) (hst : l.stackTraces = false) (D : va_G) (cy : Nat → ClassId) (h0 : Nat) (q : Nat → Nat) (A : Nat → Nat → Int32) (S : Nat → Int32) (b : Int32) (o : Int32) (nb : Nat) (hnb : nb ≤ 24) (hcb : S 5 = nI nb) : vx_Met l yX3_uses wsX3_uses (rmX (exUses b o nb) 7 103) (va_Pc [.ref (q 0), .int b, .int o] (pI D cy h0 (wX cy q A S))) (xoI (exUses b o nb) (bI (hold (A 7 (ix b)) o))) (xx (exUses b o nb)) (c1 (exUses b o nb)) (c6 (exUses b o nb)) nof := by
  refine vx_ofW (cc := cX3_uses) (maxL := 3) (ret := (some .boolean)) (by decide) rfl ?_
  intro p e s m args below meth c s₁ B hml hout hv
  obtain ⟨rfl, hI⟩ := hv
  have hx := B.exec
  have hb := B.bytes
  have hr := B.returns
  have hts := atoms_spec (ws := wsX3_uses) B.pre
  have hown : s.vm.findClass RX3 = some m.cls := findClass_of_methodNamed B.named
  have hlk := B.notSynchronized
  have hI : IH D cy h0 (wX cy q A S) s s.heap := hI
  have hG := hI.1
  have hS : va_S nof s.heap s.heap [] := va_S.rf
  have hi0 : ∀ w ∈ wsX00, w ∈ wsX3_uses := by decide +kernel
  have hi3 : ∀ w ∈ wsX30, w ∈ wsX3_uses := by decide +kernel
  have hl := lv_entry ([.ref (q 0), .int b, .int o]) (n := 3) (Nat.le_of_ble_eq_true rfl)
  rw [lg_entry_eq]
  generalize (lg_sl ([.ref (q 0), .int b, .int o]) ++ List.replicate (3 - (lg_sl ([.ref (q 0), .int b, .int o])).length) Slot.unset).toArray = ls at hl ⊢
  have hl : lv_has ls 3 [(0, .ref (q 0)), (1, .int b), (2, .int o)] := hl
  refine lv_aload_n hx hb dX3_uses_0 rfl (lv_at hl 0 rfl) ?_
  refine lv_iload_n hx hb dX3_uses_1 rfl (lv_at hl 1 rfl) ?_
  rcases Classical.em (inR b nb = true) with x2_1 | x2_1
  · refine xo_v (exR_n x2_1) (vx_runV (As := [.int b]) (rest := []) ⟨hx, hb, hml, hown, hts⟩ (c_X3_requireBuild l hst D cy h0 q A S b nb hnb hcb) (cwV 1 hts gX3_uses_X3_requireBuild rfl rfl rfl (by decide +kernel) ⟨Nat.le_of_ble_eq_true rfl, Nat.le_of_ble_eq_true rfl⟩) (hI.preV (k0 := 0) rfl rfl) rfl rfl hl.1 rfl (lv_room (Nat.le_of_ble_eq_true rfl)) dX3_uses_2 (rm_ok (exR_n x2_1) (Nat.zero_le _) (Nat.zero_le _))) hI hS (fun H locs hI hS => ?_)
    obtain ⟨hj_b, hk_b⟩ := inR_c (by omega) x2_1
    refine lv_aload_n hx hb dX3_uses_5 rfl (lv_at hl 0 rfl) ?_
    refine lv_iload_n hx hb dX3_uses_6 rfl (lv_at hl 2 rfl) ?_
    rcases Classical.em (inR o nb = true) with x7_2 | x7_2
    · refine xo_v (exR_n x7_2) (vx_runV (As := [.int o]) (rest := []) ⟨hx, hb, hml, hown, hts⟩ (c_X3_requireBuild l hst D cy h0 q A S o nb hnb hcb) (cwV 1 hts gX3_uses_X3_requireBuild rfl rfl rfl (by decide +kernel) ⟨Nat.le_of_ble_eq_true rfl, Nat.le_of_ble_eq_true rfl⟩) (hI.preV (k0 := 0) rfl rfl) rfl rfl hl.1 rfl (lv_room (Nat.le_of_ble_eq_true rfl)) dX3_uses_7 (rm_ok (exR_n x7_2) (Nat.zero_le _) (Nat.zero_le _))) hI hS (fun H locs hI hS => ?_)
      obtain ⟨hj_o, hk_o⟩ := inR_c (by omega) x7_2
      refine lv_aload_n hx hb dX3_uses_10 rfl (lv_at hl 0 rfl) ?_
      refine r_get (C := RX3) (T := TX3) (N := 7) (k := 1) (q0 := 0) (v := .ref (q 2)) hx hb hts hi3 hown hI rfl rfl (by decide) (hts (.fieldLink RX3 19 "Buildlots" "builds" "LBuildlots$Builds;") (List.mem_of_getElem? (i := 1) rfl)) rfl rfl dX3_uses_11 ?_
      refine r_getN (C := RX0) (T := TX0) (N := 10) (k := 2) (q0 := 2) (v := .ref (q 11)) hx hb hts hi0 hown hI rfl rfl (by decide) (List.mem_of_getElem? (i := 3) rfl) rfl rfl dX3_uses_14 ?_
      refine lv_iload_n hx hb dX3_uses_17 rfl (lv_at hl 1 rfl) ?_
      refine r_iald (q0 := 11) (j := (ix b)) (n := 24) (f := (A 7)) hx hb hI rfl hk_b (by omega) (by decide) dX3_uses_18 ?_
      refine lv_iload_n hx hb dX3_uses_19 rfl (lv_at hl 2 rfl) ?_
      refine ro_i (va_runS (As := [.int (A 7 (ix b)), .int o]) (rest := []) ⟨hx, hb, hml, hown, hts⟩ (c_X3_holds l (A 7 (ix b)) o) (va_cwS 2 hts gX3_uses_X3_holds rfl rfl rfl (by decide +kernel) ⟨Nat.le_of_ble_eq_true rfl, Nat.le_of_ble_eq_true rfl⟩) preT rfl rfl hl.1 rfl (lv_room (Nat.le_of_ble_eq_true rfl)) dX3_uses_20 ⟨Nat.le_of_ble_eq_true rfl, Nat.le_of_ble_eq_true rfl⟩) hI hS (fun H locs hI hS => ?_)
      exact end_xoz hx hb hr (nz_bI _) (by first | (simp only [exUses, exR, x2_1, x7_2, ↓reduceIte, Bool.false_eq_true, reduceCtorEq]; done) | simp [exUses, exR, x2_1, x7_2]) rfl hS dX3_uses_23 hlk
    · refine xb_v (E := xIOB) (exR_s x7_2) (vx_runV (As := [.int o]) (rest := []) ⟨hx, hb, hml, hown, hts⟩ (c_X3_requireBuild l hst D cy h0 q A S o nb hnb hcb) (cwV 1 hts gX3_uses_X3_requireBuild rfl rfl rfl (by decide +kernel) ⟨Nat.le_of_ble_eq_true rfl, Nat.le_of_ble_eq_true rfl⟩) (hI.preV (k0 := 0) rfl rfl) rfl rfl hl.1 rfl (lv_room (Nat.le_of_ble_eq_true rfl)) dX3_uses_7 (rm_bad (ex' := exUses b o nb) (exR_s x7_2) ((by first | (simp only [exUses, exR, x2_1, x7_2, ↓reduceIte, Bool.false_eq_true, reduceCtorEq]; done) | simp [exUses, exR, x2_1, x7_2])))) hI hS (fun ce q9 H locs hI hS hce hcv hcl => ?_)
      exact r_out (by first | (simp only [exUses, exR, x2_1, x7_2, ↓reduceIte, Bool.false_eq_true, reduceCtorEq]; done) | simp [exUses, exR, x2_1, x7_2]) hS hout hlk hce hcv hcl
  · refine xb_v (E := xIOB) (exR_s x2_1) (vx_runV (As := [.int b]) (rest := []) ⟨hx, hb, hml, hown, hts⟩ (c_X3_requireBuild l hst D cy h0 q A S b nb hnb hcb) (cwV 1 hts gX3_uses_X3_requireBuild rfl rfl rfl (by decide +kernel) ⟨Nat.le_of_ble_eq_true rfl, Nat.le_of_ble_eq_true rfl⟩) (hI.preV (k0 := 0) rfl rfl) rfl rfl hl.1 rfl (lv_room (Nat.le_of_ble_eq_true rfl)) dX3_uses_2 (rm_bad (ex' := exUses b o nb) (exR_s x2_1) ((by first | (simp only [exUses, exR, x2_1, ↓reduceIte, Bool.false_eq_true, reduceCtorEq]; done) | simp [exUses, exR, x2_1])))) hI hS (fun ce q9 H locs hI hS hce hcv hcl => ?_)
    exact r_out (by first | (simp only [exUses, exR, x2_1, ↓reduceIte, Bool.false_eq_true, reduceCtorEq]; done) | simp [exUses, exR, x2_1]) hS hout hlk hce hcv hcl

set_option maxHeartbeats 4000000 in
set_option maxRecDepth 100000 in
theorem c_X3_used (l : Launch) (hst : l.stackTraces = false) (D : va_G) (cy : Nat → ClassId) (h0 : Nat) (q : Nat → Nat) (A : Nat → Nat → Int32) (S : Nat → Int32) (b : Int32) (nb : Nat) (hnb : nb ≤ 24) (hcb : S 5 = nI nb) : vx_Met l yX3_used wsX3_used (rmX (exR b nb xIOB) 7 103) (va_Pc [.ref (q 0), .int b] (pI D cy h0 (wX cy q A S))) (xoI (exR b nb xIOB) (bcF (A 7 (ix b)))) (xx (exR b nb xIOB)) (c1 (exR b nb xIOB)) (c6 (exR b nb xIOB)) nof := by
  refine vx_ofW (cc := cX3_used) (maxL := 2) (ret := (some .int)) (by decide) rfl ?_
  intro p e s m args below meth c s₁ B hml hout hv
  obtain ⟨rfl, hI⟩ := hv
  have hx := B.exec
  have hb := B.bytes
  have hr := B.returns
  have hts := atoms_spec (ws := wsX3_used) B.pre
  have hown : s.vm.findClass RX3 = some m.cls := findClass_of_methodNamed B.named
  have hlk := B.notSynchronized
  have hI : IH D cy h0 (wX cy q A S) s s.heap := hI
  have hG := hI.1
  have hS : va_S nof s.heap s.heap [] := va_S.rf
  have hi0 : ∀ w ∈ wsX00, w ∈ wsX3_used := by decide +kernel
  have hi3 : ∀ w ∈ wsX30, w ∈ wsX3_used := by decide +kernel
  have hl := lv_entry ([.ref (q 0), .int b]) (n := 2) (Nat.le_of_ble_eq_true rfl)
  rw [lg_entry_eq]
  generalize (lg_sl ([.ref (q 0), .int b]) ++ List.replicate (2 - (lg_sl ([.ref (q 0), .int b])).length) Slot.unset).toArray = ls at hl ⊢
  have hl : lv_has ls 2 [(0, .ref (q 0)), (1, .int b)] := hl
  refine lv_aload_n hx hb dX3_used_0 rfl (lv_at hl 0 rfl) ?_
  refine lv_iload_n hx hb dX3_used_1 rfl (lv_at hl 1 rfl) ?_
  rcases Classical.em (inR b nb = true) with x2_1 | x2_1
  · refine xo_v (exR_n x2_1) (vx_runV (As := [.int b]) (rest := []) ⟨hx, hb, hml, hown, hts⟩ (c_X3_requireBuild l hst D cy h0 q A S b nb hnb hcb) (cwV 1 hts gX3_used_X3_requireBuild rfl rfl rfl (by decide +kernel) ⟨Nat.le_of_ble_eq_true rfl, Nat.le_of_ble_eq_true rfl⟩) (hI.preV (k0 := 0) rfl rfl) rfl rfl hl.1 rfl (lv_room (Nat.le_of_ble_eq_true rfl)) dX3_used_2 (rm_ok (exR_n x2_1) (Nat.zero_le _) (Nat.zero_le _))) hI hS (fun H locs hI hS => ?_)
    obtain ⟨hj_b, hk_b⟩ := inR_c (by omega) x2_1
    refine lv_aload_n hx hb dX3_used_5 rfl (lv_at hl 0 rfl) ?_
    refine r_get (C := RX3) (T := TX3) (N := 7) (k := 1) (q0 := 0) (v := .ref (q 2)) hx hb hts hi3 hown hI rfl rfl (by decide) (hts (.fieldLink RX3 19 "Buildlots" "builds" "LBuildlots$Builds;") (List.mem_of_getElem? (i := 1) rfl)) rfl rfl dX3_used_6 ?_
    refine r_getN (C := RX0) (T := TX0) (N := 10) (k := 2) (q0 := 2) (v := .ref (q 11)) hx hb hts hi0 hown hI rfl rfl (by decide) (List.mem_of_getElem? (i := 3) rfl) rfl rfl dX3_used_9 ?_
    refine lv_iload_n hx hb dX3_used_12 rfl (lv_at hl 1 rfl) ?_
    refine r_iald (q0 := 11) (j := (ix b)) (n := 24) (f := (A 7)) hx hb hI rfl hk_b (by omega) (by decide) dX3_used_13 ?_
    refine ro_i (va_runS (As := [.int (A 7 (ix b))]) (rest := []) ⟨hx, hb, hml, hown, hts⟩ (c_J6_bitCount_0f7a4 l (A 7 (ix b))) (va_cwS 1 hts gX3_used_J6_bitCount_0f7a4 rfl rfl rfl (by decide +kernel) ⟨Nat.le_of_ble_eq_true rfl, Nat.le_of_ble_eq_true rfl⟩) preT rfl rfl hl.1 rfl (lv_room (Nat.le_of_ble_eq_true rfl)) dX3_used_14 ⟨Nat.le_of_ble_eq_true rfl, Nat.le_of_ble_eq_true rfl⟩) hI hS (fun H locs hI hS => ?_)
    exact end_xoi hx hb hr (by first | (simp only [exR, x2_1, ↓reduceIte, Bool.false_eq_true, reduceCtorEq]; done) | simp [exR, x2_1]) rfl hS dX3_used_17 hlk
  · refine xb_v (E := xIOB) (exR_s x2_1) (vx_runV (As := [.int b]) (rest := []) ⟨hx, hb, hml, hown, hts⟩ (c_X3_requireBuild l hst D cy h0 q A S b nb hnb hcb) (cwV 1 hts gX3_used_X3_requireBuild rfl rfl rfl (by decide +kernel) ⟨Nat.le_of_ble_eq_true rfl, Nat.le_of_ble_eq_true rfl⟩) (hI.preV (k0 := 0) rfl rfl) rfl rfl hl.1 rfl (lv_room (Nat.le_of_ble_eq_true rfl)) dX3_used_2 (rm_bad (ex' := exR b nb xIOB) (exR_s x2_1) ((by first | (simp only [exR, x2_1, ↓reduceIte, Bool.false_eq_true, reduceCtorEq]; done) | simp [exR, x2_1])))) hI hS (fun ce q9 H locs hI hS hce hcv hcl => ?_)
    exact r_out (by first | (simp only [exR, x2_1, ↓reduceIte, Bool.false_eq_true, reduceCtorEq]; done) | simp [exR, x2_1]) hS hout hlk hce hcv hcl

set_option maxHeartbeats 4000000 in
set_option maxRecDepth 100000 in
theorem c_X3_newest (l : Launch) (hst : l.stackTraces = false) (D : va_G) (cy : Nat → ClassId) (h0 : Nat) (q : Nat → Nat) (A : Nat → Nat → Int32) (S : Nat → Int32) (name : Int32) (nb : Nat) (hnb : nb ≤ 24) (hcb : S 5 = nI nb) (htn : ∀ b, b < nb → ∃ t, t < 5 ∧ A 5 b = nI t) : vx_Met l yX3_newest wsX3_newest (rmX (exNewest A S name nb) 7 108) (va_Pc [.ref (q 0), .int name] (pI D cy h0 (wX cy q A S))) (xoI (exNewest A S name nb) (nwX A S name nb)) (xx (exNewest A S name nb)) (c1 (exNewest A S name nb)) (c6 (exNewest A S name nb)) nof := by
  refine vx_ofW (cc := cX3_newest) (maxL := 2) (ret := (some .int)) (by decide) rfl ?_
  intro p e s m args below meth c s₁ B hml hout hv
  obtain ⟨rfl, hI⟩ := hv
  have hx := B.exec
  have hb := B.bytes
  have hr := B.returns
  have hts := atoms_spec (ws := wsX3_newest) B.pre
  have hown : s.vm.findClass RX3 = some m.cls := findClass_of_methodNamed B.named
  have hlk := B.notSynchronized
  have hI : IH D cy h0 (wX cy q A S) s s.heap := hI
  have hG := hI.1
  have hS : va_S nof s.heap s.heap [] := va_S.rf
  have hi0 : ∀ w ∈ wsX00, w ∈ wsX3_newest := by decide +kernel
  have hi3 : ∀ w ∈ wsX30, w ∈ wsX3_newest := by decide +kernel
  have hl := lv_entry ([.ref (q 0), .int name]) (n := 2) (Nat.le_of_ble_eq_true rfl)
  rw [lg_entry_eq]
  generalize (lg_sl ([.ref (q 0), .int name]) ++ List.replicate (2 - (lg_sl ([.ref (q 0), .int name])).length) Slot.unset).toArray = ls at hl ⊢
  have hl : lv_has ls 2 [(0, .ref (q 0)), (1, .int name)] := hl
  refine lv_aload_n hx hb dX3_newest_0 rfl (lv_at hl 0 rfl) ?_
  refine lv_iload_n hx hb dX3_newest_1 rfl (lv_at hl 1 rfl) ?_
  rcases Classical.em (inR name 5 = true) with x2_1 | x2_1
  · refine xo_v (exR_n x2_1) (vx_runV (As := [.int name]) (rest := []) ⟨hx, hb, hml, hown, hts⟩ (c_X3_requireName l hst D cy h0 q A S name) (cwV 1 hts gX3_newest_X3_requireName rfl rfl rfl (by decide +kernel) ⟨Nat.le_of_ble_eq_true rfl, Nat.le_of_ble_eq_true rfl⟩) (hI.preV (k0 := 0) rfl rfl) rfl rfl hl.1 rfl (lv_room (Nat.le_of_ble_eq_true rfl)) dX3_newest_2 (rm_ok (exR_n x2_1) (Nat.zero_le _) (Nat.zero_le _))) hI hS (fun H locs hI hS => ?_)
    obtain ⟨hj_name, hk_name⟩ := inR_c (by omega) x2_1
    refine lv_aload_n hx hb dX3_newest_5 rfl (lv_at hl 0 rfl) ?_
    refine r_get (C := RX3) (T := TX3) (N := 7) (k := 1) (q0 := 0) (v := .ref (q 2)) hx hb hts hi3 hown hI rfl rfl (by decide) (hts (.fieldLink RX3 19 "Buildlots" "builds" "LBuildlots$Builds;") (List.mem_of_getElem? (i := 1) rfl)) rfl rfl dX3_newest_6 ?_
    refine lv_iload_n hx hb dX3_newest_9 rfl (lv_at hl 1 rfl) ?_
    refine lv_aload_n hx hb dX3_newest_10 rfl (lv_at hl 0 rfl) ?_
    refine ro_i (va_runV (As := []) (rest := [.int name, .ref (q 2)]) ⟨hx, hb, hml, hown, hts⟩ (c_X3_trustedBuilds l D cy h0 q A S nb hnb hcb htn) (cwV 0 hts gX3_newest_X3_trustedBuilds rfl rfl rfl (by decide +kernel) ⟨Nat.le_of_ble_eq_true rfl, Nat.le_of_ble_eq_true rfl⟩) (hI.preV (k0 := 0) rfl rfl) rfl rfl hl.1 rfl (lv_room (Nat.le_of_ble_eq_true rfl)) dX3_newest_11 ⟨Nat.le_of_ble_eq_true rfl, Nat.le_of_ble_eq_true rfl⟩) hI hS (fun H locs hI hS => ?_)
    refine lv_aload_n hx hb dX3_newest_14 rfl (lv_at hl 0 rfl) ?_
    refine r_get (C := RX3) (T := TX3) (N := 7) (k := 1) (q0 := 0) (v := .ref (q 2)) hx hb hts hi3 hown hI rfl rfl (by decide) (hts (.fieldLink RX3 19 "Buildlots" "builds" "LBuildlots$Builds;") (List.mem_of_getElem? (i := 1) rfl)) rfl rfl dX3_newest_15 ?_
    refine ro_i (va_runVN (As := []) (rest := [.int (tbF A nb), .int name, .ref (q 2)]) ⟨hx, hb, hml, hown, hts⟩ (c_X0_recalled l D cy h0 q A S nb hnb hcb) ⟨va_cnB (host := RX3) 0 hts gX3_newest_X0_recalled_n118 rfl rfl rfl (hG.1.2.1 (RX3, 118, yX0_recalled) (List.mem_of_getElem? (i := 12) rfl)) (hts (.initialized RX0) (List.mem_of_getElem? (i := 31) rfl)) (by decide +kernel) ⟨Nat.le_of_ble_eq_true rfl, Nat.le_of_ble_eq_true rfl⟩, (hts (.instanceMethod yX0_recalled) (List.mem_of_getElem? (i := 30) rfl)), (hts (.selects RX0 yX0_recalled yX0_recalled) (List.mem_of_getElem? (i := 32) rfl))⟩ (hI.preV (k0 := 2) rfl rfl) rfl rfl hl.1 rfl (lv_room (Nat.le_of_ble_eq_true rfl)) dX3_newest_18 ⟨Nat.le_of_ble_eq_true rfl, Nat.le_of_ble_eq_true rfl⟩) hI hS (fun H locs hI hS => ?_)
    refine lv_iconst (v := (-1)) hx hb dX3_newest_21 (by decide) ?_
    refine lv_ixor hx hb dX3_newest_22 ?_
    refine lv_iand hx hb dX3_newest_23 ?_
    refine ro_i (va_runVN (As := [.int name, .int ((tbF A nb) &&& ((rcF (A 7) (S 4) nb) ^^^ (-1)))]) (rest := []) ⟨hx, hb, hml, hown, hts⟩ (c_X0_newestOf l D cy h0 q A S name ((tbF A nb) &&& ((rcF (A 7) (S 4) nb) ^^^ (-1))) nb hnb hcb) ⟨va_cnB (host := RX3) 2 hts gX3_newest_X0_newestOf_n142 rfl rfl rfl (hG.1.2.1 (RX3, 142, yX0_newestOf) (List.mem_of_getElem? (i := 15) rfl)) (hts (.initialized RX0) (List.mem_of_getElem? (i := 31) rfl)) (by decide +kernel) ⟨Nat.le_of_ble_eq_true rfl, Nat.le_of_ble_eq_true rfl⟩, (hts (.instanceMethod yX0_newestOf) (List.mem_of_getElem? (i := 37) rfl)), (hts (.selects RX0 yX0_newestOf yX0_newestOf) (List.mem_of_getElem? (i := 38) rfl))⟩ (hI.preV (k0 := 2) rfl rfl) rfl rfl hl.1 rfl (lv_room (Nat.le_of_ble_eq_true rfl)) dX3_newest_24 ⟨Nat.le_of_ble_eq_true rfl, Nat.le_of_ble_eq_true rfl⟩) hI hS (fun H locs hI hS => ?_)
    rcases Classical.em (¬ (nwF (A 5) name ((tbF A nb) &&& ((rcF (A 7) (S 4) nb) ^^^ (-1))) nb) = -1) with x27_2 | x27_2
    · refine xo_i (exF_n x27_2) (vx_runS (As := [.int (nwF (A 5) name ((tbF A nb) &&& ((rcF (A 7) (S 4) nb) ^^^ (-1))) nb)]) (rest := []) ⟨hx, hb, hml, hown, hts⟩ (c_X3_requireFound l hst D cy h0 q A S (nwF (A 5) name ((tbF A nb) &&& ((rcF (A 7) (S 4) nb) ^^^ (-1))) nb)) (va_cwS 1 hts gX3_newest_X3_requireFound rfl rfl rfl (by decide +kernel) ⟨Nat.le_of_ble_eq_true rfl, Nat.le_of_ble_eq_true rfl⟩) hI.preS rfl rfl hl.1 rfl (lv_room (Nat.le_of_ble_eq_true rfl)) dX3_newest_27 (rm_ok (exF_n x27_2) (Nat.zero_le _) (Nat.zero_le _))) hI hS (fun H locs hI hS => ?_)
      exact end_xoi hx hb hr (by first | (simp only [exNewest, exF, nwX, x2_1, x27_2, ↓reduceIte, Bool.false_eq_true, reduceCtorEq]; done) | simp [exNewest, exF, nwX, x2_1, x27_2]) rfl hS dX3_newest_30 hlk
    · refine xb_i (E := xNSE) (exF_s (Classical.not_not.mp x27_2)) (vx_runS (As := [.int (nwF (A 5) name ((tbF A nb) &&& ((rcF (A 7) (S 4) nb) ^^^ (-1))) nb)]) (rest := []) ⟨hx, hb, hml, hown, hts⟩ (c_X3_requireFound l hst D cy h0 q A S (nwF (A 5) name ((tbF A nb) &&& ((rcF (A 7) (S 4) nb) ^^^ (-1))) nb)) (va_cwS 1 hts gX3_newest_X3_requireFound rfl rfl rfl (by decide +kernel) ⟨Nat.le_of_ble_eq_true rfl, Nat.le_of_ble_eq_true rfl⟩) hI.preS rfl rfl hl.1 rfl (lv_room (Nat.le_of_ble_eq_true rfl)) dX3_newest_27 (rm_bad (ex' := exNewest A S name nb) (exF_s (Classical.not_not.mp x27_2)) ((by first | (simp only [exNewest, exF, nwX, x2_1, Classical.not_not.mp x27_2, ↓reduceIte, Bool.false_eq_true, reduceCtorEq]; done) | simp [exNewest, exF, nwX, x2_1, Classical.not_not.mp x27_2])))) hI hS (fun ce q9 H locs hI hS hce hcv hcl => ?_)
      exact r_out (by first | (simp only [exNewest, exF, nwX, x2_1, Classical.not_not.mp x27_2, ↓reduceIte, Bool.false_eq_true, reduceCtorEq]; done) | simp [exNewest, exF, nwX, x2_1, Classical.not_not.mp x27_2]) hS hout hlk hce hcv hcl
  · refine xb_v (E := xIAE) (exR_s x2_1) (vx_runV (As := [.int name]) (rest := []) ⟨hx, hb, hml, hown, hts⟩ (c_X3_requireName l hst D cy h0 q A S name) (cwV 1 hts gX3_newest_X3_requireName rfl rfl rfl (by decide +kernel) ⟨Nat.le_of_ble_eq_true rfl, Nat.le_of_ble_eq_true rfl⟩) (hI.preV (k0 := 0) rfl rfl) rfl rfl hl.1 rfl (lv_room (Nat.le_of_ble_eq_true rfl)) dX3_newest_2 (rm_bad (ex' := exNewest A S name nb) (exR_s x2_1) ((by first | (simp only [exNewest, exF, nwX, x2_1, ↓reduceIte, Bool.false_eq_true, reduceCtorEq]; done) | simp [exNewest, exF, nwX, x2_1])))) hI hS (fun ce q9 H locs hI hS hce hcv hcl => ?_)
    exact r_out (by first | (simp only [exNewest, exF, nwX, x2_1, ↓reduceIte, Bool.false_eq_true, reduceCtorEq]; done) | simp [exNewest, exF, nwX, x2_1]) hS hout hlk hce hcv hcl

set_option maxHeartbeats 4000000 in
set_option maxRecDepth 100000 in
theorem c_X3_attest (l : Launch) (hst : l.stackTraces = false) (D : va_G) (cy : Nat → ClassId) (h0 : Nat) (q : Nat → Nat) (A : Nat → Nat → Int32) (S : Nat → Int32) (b : Int32) (key : Int32) (nk : Nat) (hnk : nk ≤ 8) (hck : S 3 = nI nk) (nb : Nat) (hnb : nb ≤ 24) (hcb : S 5 = nI nb) : vx_Met l yX3_attest wsX3_attest (rmX (exAttest A S b key nk nb) 7 103) (va_Pc [.ref (q 0), .int b, .int key] (pI D cy h0 (wX cy q A S))) (xwI (exAttest A S b key nk nb) (bcF (A 9 (ix b) ||| ly key)) D cy h0 (wX cy q (atA A b key) S) (qA 19 q)) (xx (exAttest A S b key nk nb)) (c1 (exAttest A S b key nk nb)) (c6 (exAttest A S b key nk nb)) (qA 19 q) := by
  refine vx_ofW (cc := cX3_attest) (maxL := 3) (ret := (some .int)) (by decide) rfl ?_
  intro p e s m args below meth c s₁ B hml hout hv
  obtain ⟨rfl, hI⟩ := hv
  have hx := B.exec
  have hb := B.bytes
  have hr := B.returns
  have hts := atoms_spec (ws := wsX3_attest) B.pre
  have hown : s.vm.findClass RX3 = some m.cls := findClass_of_methodNamed B.named
  have hlk := B.notSynchronized
  have hI : IH D cy h0 (wX cy q A S) s s.heap := hI
  have hG := hI.1
  have hqA := hA_X hI
  have hh0 : h0 ≤ s.heap.size := hI.1.2.2.2
  have hS : va_S nof s.heap s.heap [] := va_S.rf
  have hi0 : ∀ w ∈ wsX00, w ∈ wsX3_attest := by decide +kernel
  have hi1 : ∀ w ∈ wsX10, w ∈ wsX3_attest := by decide +kernel
  have hi3 : ∀ w ∈ wsX30, w ∈ wsX3_attest := by decide +kernel
  have hl := lv_entry ([.ref (q 0), .int b, .int key]) (n := 3) (Nat.le_of_ble_eq_true rfl)
  rw [lg_entry_eq]
  generalize (lg_sl ([.ref (q 0), .int b, .int key]) ++ List.replicate (3 - (lg_sl ([.ref (q 0), .int b, .int key])).length) Slot.unset).toArray = ls at hl ⊢
  have hl : lv_has ls 3 [(0, .ref (q 0)), (1, .int b), (2, .int key)] := hl
  refine lv_aload_n hx hb dX3_attest_0 rfl (lv_at hl 0 rfl) ?_
  refine lv_iload_n hx hb dX3_attest_1 rfl (lv_at hl 1 rfl) ?_
  rcases Classical.em (inR b nb = true) with x2_1 | x2_1
  · refine xo_v (exR_n x2_1) (vx_runV (As := [.int b]) (rest := []) ⟨hx, hb, hml, hown, hts⟩ (c_X3_requireBuild l hst D cy h0 q A S b nb hnb hcb) (cwV 1 hts gX3_attest_X3_requireBuild rfl rfl rfl (by decide +kernel) ⟨Nat.le_of_ble_eq_true rfl, Nat.le_of_ble_eq_true rfl⟩) (hI.preV (k0 := 0) rfl rfl) rfl rfl hl.1 rfl (lv_room (Nat.le_of_ble_eq_true rfl)) dX3_attest_2 (rm_ok (exR_n x2_1) (Nat.zero_le _) (Nat.zero_le _))) hI hS (fun H locs hI hS => ?_)
    obtain ⟨hj_b, hk_b⟩ := inR_c (by omega) x2_1
    refine lv_aload_n hx hb dX3_attest_5 rfl (lv_at hl 0 rfl) ?_
    refine lv_iload_n hx hb dX3_attest_6 rfl (lv_at hl 2 rfl) ?_
    rcases Classical.em (inR key nk = true) with x7_2 | x7_2
    · refine xo_v (exR_n x7_2) (vx_runV (As := [.int key]) (rest := []) ⟨hx, hb, hml, hown, hts⟩ (c_X3_requireKey l hst D cy h0 q A S key nk hnk hck) (cwV 1 hts gX3_attest_X3_requireKey rfl rfl rfl (by decide +kernel) ⟨Nat.le_of_ble_eq_true rfl, Nat.le_of_ble_eq_true rfl⟩) (hI.preV (k0 := 0) rfl rfl) rfl rfl hl.1 rfl (lv_room (Nat.le_of_ble_eq_true rfl)) dX3_attest_7 (rm_ok (exR_n x7_2) (Nat.zero_le _) (Nat.zero_le _))) hI hS (fun H locs hI hS => ?_)
      obtain ⟨hj_key, hk_key⟩ := inR_c (by omega) x7_2
      refine lv_aload_n hx hb dX3_attest_10 rfl (lv_at hl 0 rfl) ?_
      refine r_get (C := RX3) (T := TX3) (N := 7) (k := 0) (q0 := 0) (v := .ref (q 1)) hx hb hts hi3 hown hI rfl rfl (by decide) (hts (.fieldLink RX3 10 "Buildlots" "keys" "LBuildlots$Keys;") (List.mem_of_getElem? (i := 5) rfl)) rfl rfl dX3_attest_11 ?_
      refine lv_iload_n hx hb dX3_attest_14 rfl (lv_at hl 2 rfl) ?_
      refine lv_aload_n hx hb dX3_attest_15 rfl (lv_at hl 0 rfl) ?_
      refine r_get (C := RX3) (T := TX3) (N := 7) (k := 6) (q0 := 0) (v := .int (S 1)) hx hb hts hi3 hown hI rfl rfl (by decide) (hts (.fieldLink RX3 41 "Buildlots" "today" "I") (List.mem_of_getElem? (i := 6) rfl)) rfl rfl dX3_attest_16 ?_
      refine ro_i (va_runVN (As := [.int key, .int (S 1)]) (rest := []) ⟨hx, hb, hml, hown, hts⟩ (c_X1_liveOn l D cy h0 q A S key (S 1) (ix key) (by omega) hk_key) ⟨va_cnB (host := RX3) 2 hts gX3_attest_X1_liveOn_n103 rfl rfl rfl (hG.1.2.1 (RX3, 103, yX1_liveOn) (List.mem_of_getElem? (i := 9) rfl)) (hts (.initialized RX1) (List.mem_of_getElem? (i := 20) rfl)) (by decide +kernel) ⟨Nat.le_of_ble_eq_true rfl, Nat.le_of_ble_eq_true rfl⟩, (hts (.instanceMethod yX1_liveOn) (List.mem_of_getElem? (i := 19) rfl)), (hts (.selects RX1 yX1_liveOn yX1_liveOn) (List.mem_of_getElem? (i := 21) rfl))⟩ (hI.preV (k0 := 1) rfl rfl) rfl rfl hl.1 rfl (lv_room (Nat.le_of_ble_eq_true rfl)) dX3_attest_19 ⟨Nat.le_of_ble_eq_true rfl, Nat.le_of_ble_eq_true rfl⟩) hI hS (fun H locs hI hS => ?_)
      refine r_ifeq_b (tgt := 41) hx hb dX3_attest_22 (by decide) (fun c22_3 => ?_) (fun c22_3 => ?_)
      · exact r_throw (text := "the key is not live or has attested the build") hx hb hst hown (by decide) (by decide) tg_ISE tb_ISE (hts (.classLink RX3 58 "java/lang/IllegalStateException") (List.mem_of_getElem? (i := 1) rfl)) (hts (.initialized "java/lang/IllegalStateException") (List.mem_of_getElem? (i := 2) rfl)) (fun w h => hts w (List.mem_cons_of_mem _ (List.mem_append_left _ (List.mem_append_left _ (List.mem_append_right _ h))))) (by decide) hG hS (by rw [hml]; exact hl.1) (by first | (simp only [exAttest, x2_1, x7_2, c22_3, ↓reduceIte, Bool.false_eq_true, reduceCtorEq]; done) | simp [exAttest, x2_1, x7_2, c22_3]) dX3_attest_41 dX3_attest_44 dX3_attest_45 dX3_attest_47 dX3_attest_50 hout (Nat.le_of_ble_eq_true rfl) (Nat.le_of_ble_eq_true rfl) (Nat.le_refl _) (Nat.le_refl _) hlk
      · refine lv_aload_n hx hb dX3_attest_25 rfl (lv_at hl 0 rfl) ?_
        refine r_get (C := RX3) (T := TX3) (N := 7) (k := 1) (q0 := 0) (v := .ref (q 2)) hx hb hts hi3 hown hI rfl rfl (by decide) (hts (.fieldLink RX3 19 "Buildlots" "builds" "LBuildlots$Builds;") (List.mem_of_getElem? (i := 7) rfl)) rfl rfl dX3_attest_26 ?_
        refine r_getN (C := RX0) (T := TX0) (N := 10) (k := 4) (q0 := 2) (v := .ref (q 13)) hx hb hts hi0 hown hI rfl rfl (by decide) (List.mem_of_getElem? (i := 4) rfl) rfl rfl dX3_attest_29 ?_
        refine lv_iload_n hx hb dX3_attest_32 rfl (lv_at hl 1 rfl) ?_
        refine r_iald (q0 := 13) (j := (ix b)) (n := 24) (f := (A 9)) hx hb hI rfl hk_b (by omega) (by decide) dX3_attest_33 ?_
        refine lv_iload_n hx hb dX3_attest_34 rfl (lv_at hl 2 rfl) ?_
        refine ro_i (va_runS (As := [.int (A 9 (ix b)), .int key]) (rest := []) ⟨hx, hb, hml, hown, hts⟩ (c_X3_holds l (A 9 (ix b)) key) (va_cwS 2 hts gX3_attest_X3_holds rfl rfl rfl (by decide +kernel) ⟨Nat.le_of_ble_eq_true rfl, Nat.le_of_ble_eq_true rfl⟩) preT rfl rfl hl.1 rfl (lv_room (Nat.le_of_ble_eq_true rfl)) dX3_attest_35 ⟨Nat.le_of_ble_eq_true rfl, Nat.le_of_ble_eq_true rfl⟩) hI hS (fun H locs hI hS => ?_)
        refine r_ifeq_b (tgt := 51) hx hb dX3_attest_38 (by decide) (fun c38_4 => ?_) (fun c38_4 => ?_)
        · refine lv_aload_n hx hb dX3_attest_51 rfl (lv_at hl 0 rfl) ?_
          refine r_get (C := RX3) (T := TX3) (N := 7) (k := 1) (q0 := 0) (v := .ref (q 2)) hx hb hts hi3 hown hI rfl rfl (by decide) (hts (.fieldLink RX3 19 "Buildlots" "builds" "LBuildlots$Builds;") (List.mem_of_getElem? (i := 7) rfl)) rfl rfl dX3_attest_52 ?_
          refine ro_i (va_runVN (As := []) (rest := []) ⟨hx, hb, hml, hown, hts⟩ (c_X0_recalled l D cy h0 q A S nb hnb hcb) ⟨va_cnB (host := RX3) 0 hts gX3_attest_X0_recalled_n118 rfl rfl rfl (hG.1.2.1 (RX3, 118, yX0_recalled) (List.mem_of_getElem? (i := 12) rfl)) (hts (.initialized RX0) (List.mem_of_getElem? (i := 33) rfl)) (by decide +kernel) ⟨Nat.le_of_ble_eq_true rfl, Nat.le_of_ble_eq_true rfl⟩, (hts (.instanceMethod yX0_recalled) (List.mem_of_getElem? (i := 32) rfl)), (hts (.selects RX0 yX0_recalled yX0_recalled) (List.mem_of_getElem? (i := 34) rfl))⟩ (hI.preV (k0 := 2) rfl rfl) rfl rfl hl.1 rfl (lv_room (Nat.le_of_ble_eq_true rfl)) dX3_attest_55 ⟨Nat.le_of_ble_eq_true rfl, Nat.le_of_ble_eq_true rfl⟩) hI hS (fun H locs hI hS => ?_)
          refine lv_iload_n hx hb dX3_attest_58 rfl (lv_at hl 1 rfl) ?_
          refine ro_i (va_runS (As := [.int (rcF (A 7) (S 4) nb), .int b]) (rest := []) ⟨hx, hb, hml, hown, hts⟩ (c_X3_holds l (rcF (A 7) (S 4) nb) b) (va_cwS 2 hts gX3_attest_X3_holds rfl rfl rfl (by decide +kernel) ⟨Nat.le_of_ble_eq_true rfl, Nat.le_of_ble_eq_true rfl⟩) preT rfl rfl hl.1 rfl (lv_room (Nat.le_of_ble_eq_true rfl)) dX3_attest_59 ⟨Nat.le_of_ble_eq_true rfl, Nat.le_of_ble_eq_true rfl⟩) hI hS (fun H locs hI hS => ?_)
          refine r_ifeq_b (tgt := 75) hx hb dX3_attest_62 (by decide) (fun c62_5 => ?_) (fun c62_5 => ?_)
          · refine lv_aload_n hx hb dX3_attest_75 rfl (lv_at hl 0 rfl) ?_
            refine r_get (C := RX3) (T := TX3) (N := 7) (k := 1) (q0 := 0) (v := .ref (q 2)) hx hb hts hi3 hown hI rfl rfl (by decide) (hts (.fieldLink RX3 19 "Buildlots" "builds" "LBuildlots$Builds;") (List.mem_of_getElem? (i := 7) rfl)) rfl rfl dX3_attest_76 ?_
            refine r_getN (C := RX0) (T := TX0) (N := 10) (k := 4) (q0 := 2) (v := .ref (q 13)) hx hb hts hi0 hown hI rfl rfl (by decide) (List.mem_of_getElem? (i := 4) rfl) rfl rfl dX3_attest_79 ?_
            refine lv_iload_n hx hb dX3_attest_82 rfl (lv_at hl 1 rfl) ?_
            refine lv_dup2_11 hx hb dX3_attest_83 rfl rfl ?_
            refine r_iald (q0 := 13) (j := (ix b)) (n := 24) (f := (A 9)) hx hb hI rfl hk_b (by omega) (by decide) dX3_attest_84 ?_
            refine lv_iload_n hx hb dX3_attest_85 rfl (lv_at hl 2 rfl) ?_
            refine ro_i (va_runS (As := [.int key]) (rest := [.int (A 9 (ix b)), .int b, .ref (q 13)]) ⟨hx, hb, hml, hown, hts⟩ (c_X3_only l key) (va_cwS 1 hts gX3_attest_X3_only rfl rfl rfl (by decide +kernel) ⟨Nat.le_of_ble_eq_true rfl, Nat.le_of_ble_eq_true rfl⟩) preT rfl rfl hl.1 rfl (lv_room (Nat.le_of_ble_eq_true rfl)) dX3_attest_86 ⟨Nat.le_of_ble_eq_true rfl, Nat.le_of_ble_eq_true rfl⟩) hI hS (fun H locs hI hS => ?_)
            refine lv_ior hx hb dX3_attest_89 ?_
            have hS := hS.mono (B := qA 19 q) (fun _ h => h.elim)
            refine r_iast (w' := wX cy q (uA A 9 (upd (A 9) (ix b) ((A 9 (ix b)) ||| (ly key)))) S) (q0 := 13) (j := (ix b)) (n := 24) (f := (A 9)) hx hb hI hS hqA hh0 (qA_X hI) rfl hk_b (by omega) (by decide) dX3_attest_90 rfl (fun H locs hI hS => ?_)
            refine lv_aload_n hx hb dX3_attest_91 rfl (lv_at hl 0 rfl) ?_
            refine r_get (C := RX3) (T := TX3) (N := 7) (k := 1) (q0 := 0) (v := .ref (q 2)) hx hb hts hi3 hown hI rfl rfl (by decide) (hts (.fieldLink RX3 19 "Buildlots" "builds" "LBuildlots$Builds;") (List.mem_of_getElem? (i := 7) rfl)) rfl rfl dX3_attest_92 ?_
            refine r_getN (C := RX0) (T := TX0) (N := 10) (k := 5) (q0 := 2) (v := .ref (q 14)) hx hb hts hi0 hown hI rfl rfl (by decide) (List.mem_of_getElem? (i := 5) rfl) rfl rfl dX3_attest_95 ?_
            refine lv_iload_n hx hb dX3_attest_98 rfl (lv_at hl 1 rfl) ?_
            refine lv_dup2_11 hx hb dX3_attest_99 rfl rfl ?_
            refine r_iald (q0 := 14) (j := (ix b)) (n := 24) (f := (A 10)) hx hb hI rfl hk_b (by omega) (by decide) dX3_attest_100 ?_
            refine lv_aload_n hx hb dX3_attest_101 rfl (lv_at hl 0 rfl) ?_
            refine r_get (C := RX3) (T := TX3) (N := 7) (k := 0) (q0 := 0) (v := .ref (q 1)) hx hb hts hi3 hown hI rfl rfl (by decide) (hts (.fieldLink RX3 10 "Buildlots" "keys" "LBuildlots$Keys;") (List.mem_of_getElem? (i := 5) rfl)) rfl rfl dX3_attest_102 ?_
            refine r_getN (C := RX1) (T := TX1) (N := 5) (k := 0) (q0 := 1) (v := .ref (q 6)) hx hb hts hi1 hown hI rfl rfl (by decide) (List.mem_of_getElem? (i := 6) rfl) rfl rfl dX3_attest_105 ?_
            refine lv_iload_n hx hb dX3_attest_108 rfl (lv_at hl 2 rfl) ?_
            refine r_iald (q0 := 6) (j := (ix key)) (n := 8) (f := (A 2)) hx hb hI rfl hk_key (by omega) (by decide) dX3_attest_109 ?_
            refine ro_i (va_runS (As := [.int (A 2 (ix key))]) (rest := [.int (A 10 (ix b)), .int b, .ref (q 14)]) ⟨hx, hb, hml, hown, hts⟩ (c_X3_only l (A 2 (ix key))) (va_cwS 1 hts gX3_attest_X3_only rfl rfl rfl (by decide +kernel) ⟨Nat.le_of_ble_eq_true rfl, Nat.le_of_ble_eq_true rfl⟩) preT rfl rfl hl.1 rfl (lv_room (Nat.le_of_ble_eq_true rfl)) dX3_attest_110 ⟨Nat.le_of_ble_eq_true rfl, Nat.le_of_ble_eq_true rfl⟩) hI hS (fun H locs hI hS => ?_)
            refine lv_ior hx hb dX3_attest_113 ?_
            refine r_iast (w' := wX cy q (uA (uA A 9 (upd (A 9) (ix b) ((A 9 (ix b)) ||| (ly key)))) 10 (upd (A 10) (ix b) ((A 10 (ix b)) ||| (ly (A 2 (ix key)))))) S) (q0 := 14) (j := (ix b)) (n := 24) (f := (A 10)) hx hb hI hS hqA hh0 (qA_X hI) rfl hk_b (by omega) (by decide) dX3_attest_114 rfl (fun H locs hI hS => ?_)
            refine lv_aload_n hx hb dX3_attest_115 rfl (lv_at hl 0 rfl) ?_
            refine r_get (C := RX3) (T := TX3) (N := 7) (k := 1) (q0 := 0) (v := .ref (q 2)) hx hb hts hi3 hown hI rfl rfl (by decide) (hts (.fieldLink RX3 19 "Buildlots" "builds" "LBuildlots$Builds;") (List.mem_of_getElem? (i := 7) rfl)) rfl rfl dX3_attest_116 ?_
            refine r_getN (C := RX0) (T := TX0) (N := 10) (k := 4) (q0 := 2) (v := .ref (q 13)) hx hb hts hi0 hown hI rfl rfl (by decide) (List.mem_of_getElem? (i := 4) rfl) rfl rfl dX3_attest_119 ?_
            refine lv_iload_n hx hb dX3_attest_122 rfl (lv_at hl 1 rfl) ?_
            refine r_iald (q0 := 13) (j := (ix b)) (n := 24) (f := (upd (A 9) (ix b) ((A 9 (ix b)) ||| (ly key)))) hx hb hI rfl hk_b (by omega) (by decide) dX3_attest_123 ?_
            refine ro_i (va_runS (As := [.int ((upd (A 9) (ix b) ((A 9 (ix b)) ||| (ly key))) (ix b))]) (rest := []) ⟨hx, hb, hml, hown, hts⟩ (c_J6_bitCount_0f7a4 l ((upd (A 9) (ix b) ((A 9 (ix b)) ||| (ly key))) (ix b))) (va_cwS 1 hts gX3_attest_J6_bitCount_0f7a4 rfl rfl rfl (by decide +kernel) ⟨Nat.le_of_ble_eq_true rfl, Nat.le_of_ble_eq_true rfl⟩) preT rfl rfl hl.1 rfl (lv_room (Nat.le_of_ble_eq_true rfl)) dX3_attest_124 ⟨Nat.le_of_ble_eq_true rfl, Nat.le_of_ble_eq_true rfl⟩) hI hS (fun H locs hI hS => ?_)
            rw [show wX cy q (uA (uA A 9 (upd (A 9) (ix b) ((A 9 (ix b)) ||| (ly key)))) 10 (upd (A 10) (ix b) ((A 10 (ix b)) ||| (ly (A 2 (ix key)))))) S = wX cy q (atA A b key) S from rfl] at hI
            exact end_xwi hx hb hr (by first | (simp only [exAttest, x2_1, x7_2, c22_3, c38_4, c62_5, ↓reduceIte, Bool.false_eq_true, reduceCtorEq]; done) | simp [exAttest, x2_1, x7_2, c22_3, c38_4, c62_5]) (by simp [upd]) hI hS dX3_attest_127 hlk
          · exact r_throw (text := "the build is recalled") hx hb hst hown (by decide) (by decide) tg_UOE tb_UOE (hts (.classLink RX3 121 "java/lang/UnsupportedOperationException") (List.mem_of_getElem? (i := 3) rfl)) (hts (.initialized "java/lang/UnsupportedOperationException") (List.mem_of_getElem? (i := 4) rfl)) (fun w h => hts w (List.mem_cons_of_mem _ (List.mem_append_left _ (List.mem_append_right _ h)))) (by decide) hG hS (by rw [hml]; exact hl.1) (by first | (simp only [exAttest, x2_1, x7_2, c22_3, c38_4, c62_5, ↓reduceIte, Bool.false_eq_true, reduceCtorEq]; done) | simp [exAttest, x2_1, x7_2, c22_3, c38_4, c62_5]) dX3_attest_65 dX3_attest_68 dX3_attest_69 dX3_attest_71 dX3_attest_74 hout (Nat.le_of_ble_eq_true rfl) (Nat.le_of_ble_eq_true rfl) (Nat.le_refl _) (Nat.le_refl _) hlk
        · exact r_throw (text := "the key is not live or has attested the build") hx hb hst hown (by decide) (by decide) tg_ISE tb_ISE (hts (.classLink RX3 58 "java/lang/IllegalStateException") (List.mem_of_getElem? (i := 1) rfl)) (hts (.initialized "java/lang/IllegalStateException") (List.mem_of_getElem? (i := 2) rfl)) (fun w h => hts w (List.mem_cons_of_mem _ (List.mem_append_left _ (List.mem_append_left _ (List.mem_append_right _ h))))) (by decide) hG hS (by rw [hml]; exact hl.1) (by first | (simp only [exAttest, x2_1, x7_2, c22_3, c38_4, ↓reduceIte, Bool.false_eq_true, reduceCtorEq]; done) | simp [exAttest, x2_1, x7_2, c22_3, c38_4]) dX3_attest_41 dX3_attest_44 dX3_attest_45 dX3_attest_47 dX3_attest_50 hout (Nat.le_of_ble_eq_true rfl) (Nat.le_of_ble_eq_true rfl) (Nat.le_refl _) (Nat.le_refl _) hlk
    · refine xb_v (E := xIOB) (exR_s x7_2) (vx_runV (As := [.int key]) (rest := []) ⟨hx, hb, hml, hown, hts⟩ (c_X3_requireKey l hst D cy h0 q A S key nk hnk hck) (cwV 1 hts gX3_attest_X3_requireKey rfl rfl rfl (by decide +kernel) ⟨Nat.le_of_ble_eq_true rfl, Nat.le_of_ble_eq_true rfl⟩) (hI.preV (k0 := 0) rfl rfl) rfl rfl hl.1 rfl (lv_room (Nat.le_of_ble_eq_true rfl)) dX3_attest_7 (rm_bad (ex' := exAttest A S b key nk nb) (exR_s x7_2) ((by first | (simp only [exAttest, x2_1, x7_2, ↓reduceIte, Bool.false_eq_true, reduceCtorEq]; done) | simp [exAttest, x2_1, x7_2])))) hI hS (fun ce q9 H locs hI hS hce hcv hcl => ?_)
      exact r_out (by first | (simp only [exAttest, x2_1, x7_2, ↓reduceIte, Bool.false_eq_true, reduceCtorEq]; done) | simp [exAttest, x2_1, x7_2]) hS hout hlk hce hcv hcl
  · refine xb_v (E := xIOB) (exR_s x2_1) (vx_runV (As := [.int b]) (rest := []) ⟨hx, hb, hml, hown, hts⟩ (c_X3_requireBuild l hst D cy h0 q A S b nb hnb hcb) (cwV 1 hts gX3_attest_X3_requireBuild rfl rfl rfl (by decide +kernel) ⟨Nat.le_of_ble_eq_true rfl, Nat.le_of_ble_eq_true rfl⟩) (hI.preV (k0 := 0) rfl rfl) rfl rfl hl.1 rfl (lv_room (Nat.le_of_ble_eq_true rfl)) dX3_attest_2 (rm_bad (ex' := exAttest A S b key nk nb) (exR_s x2_1) ((by first | (simp only [exAttest, x2_1, ↓reduceIte, Bool.false_eq_true, reduceCtorEq]; done) | simp [exAttest, x2_1])))) hI hS (fun ce q9 H locs hI hS hce hcv hcl => ?_)
    exact r_out (by first | (simp only [exAttest, x2_1, ↓reduceIte, Bool.false_eq_true, reduceCtorEq]; done) | simp [exAttest, x2_1]) hS hout hlk hce hcv hcl

set_option maxHeartbeats 4000000 in
set_option maxRecDepth 100000 in
theorem c_X3_vouches (l : Launch) (hst : l.stackTraces = false) (D : va_G) (cy : Nat → ClassId) (h0 : Nat) (q : Nat → Nat) (A : Nat → Nat → Int32) (S : Nat → Int32) (b : Int32) (signer : Int32) (nb : Nat) (hnb : nb ≤ 24) (hcb : S 5 = nI nb) : vx_Met l yX3_vouches wsX3_vouches (rmX (exVouches b signer nb) 7 103) (va_Pc [.ref (q 0), .int b, .int signer] (pI D cy h0 (wX cy q A S))) (xoI (exVouches b signer nb) (bI (hold (A 10 (ix b)) signer))) (xx (exVouches b signer nb)) (c1 (exVouches b signer nb)) (c6 (exVouches b signer nb)) nof := by
  refine vx_ofW (cc := cX3_vouches) (maxL := 3) (ret := (some .boolean)) (by decide) rfl ?_
  intro p e s m args below meth c s₁ B hml hout hv
  obtain ⟨rfl, hI⟩ := hv
  have hx := B.exec
  have hb := B.bytes
  have hr := B.returns
  have hts := atoms_spec (ws := wsX3_vouches) B.pre
  have hown : s.vm.findClass RX3 = some m.cls := findClass_of_methodNamed B.named
  have hlk := B.notSynchronized
  have hI : IH D cy h0 (wX cy q A S) s s.heap := hI
  have hG := hI.1
  have hS : va_S nof s.heap s.heap [] := va_S.rf
  have hi0 : ∀ w ∈ wsX00, w ∈ wsX3_vouches := by decide +kernel
  have hi3 : ∀ w ∈ wsX30, w ∈ wsX3_vouches := by decide +kernel
  have hl := lv_entry ([.ref (q 0), .int b, .int signer]) (n := 3) (Nat.le_of_ble_eq_true rfl)
  rw [lg_entry_eq]
  generalize (lg_sl ([.ref (q 0), .int b, .int signer]) ++ List.replicate (3 - (lg_sl ([.ref (q 0), .int b, .int signer])).length) Slot.unset).toArray = ls at hl ⊢
  have hl : lv_has ls 3 [(0, .ref (q 0)), (1, .int b), (2, .int signer)] := hl
  refine lv_aload_n hx hb dX3_vouches_0 rfl (lv_at hl 0 rfl) ?_
  refine lv_iload_n hx hb dX3_vouches_1 rfl (lv_at hl 1 rfl) ?_
  rcases Classical.em (inR b nb = true) with x2_1 | x2_1
  · refine xo_v (exR_n x2_1) (vx_runV (As := [.int b]) (rest := []) ⟨hx, hb, hml, hown, hts⟩ (c_X3_requireBuild l hst D cy h0 q A S b nb hnb hcb) (cwV 1 hts gX3_vouches_X3_requireBuild rfl rfl rfl (by decide +kernel) ⟨Nat.le_of_ble_eq_true rfl, Nat.le_of_ble_eq_true rfl⟩) (hI.preV (k0 := 0) rfl rfl) rfl rfl hl.1 rfl (lv_room (Nat.le_of_ble_eq_true rfl)) dX3_vouches_2 (rm_ok (exR_n x2_1) (Nat.zero_le _) (Nat.zero_le _))) hI hS (fun H locs hI hS => ?_)
    obtain ⟨hj_b, hk_b⟩ := inR_c (by omega) x2_1
    refine lv_aload_n hx hb dX3_vouches_5 rfl (lv_at hl 0 rfl) ?_
    refine lv_iload_n hx hb dX3_vouches_6 rfl (lv_at hl 2 rfl) ?_
    rcases Classical.em (inR signer 4 = true) with x7_2 | x7_2
    · refine xo_v (exR_n x7_2) (vx_runV (As := [.int signer]) (rest := []) ⟨hx, hb, hml, hown, hts⟩ (c_X3_requireSigner l hst D cy h0 q A S signer) (cwV 1 hts gX3_vouches_X3_requireSigner rfl rfl rfl (by decide +kernel) ⟨Nat.le_of_ble_eq_true rfl, Nat.le_of_ble_eq_true rfl⟩) (hI.preV (k0 := 0) rfl rfl) rfl rfl hl.1 rfl (lv_room (Nat.le_of_ble_eq_true rfl)) dX3_vouches_7 (rm_ok (exR_n x7_2) (Nat.zero_le _) (Nat.zero_le _))) hI hS (fun H locs hI hS => ?_)
      obtain ⟨hj_signer, hk_signer⟩ := inR_c (by omega) x7_2
      refine lv_aload_n hx hb dX3_vouches_10 rfl (lv_at hl 0 rfl) ?_
      refine r_get (C := RX3) (T := TX3) (N := 7) (k := 1) (q0 := 0) (v := .ref (q 2)) hx hb hts hi3 hown hI rfl rfl (by decide) (hts (.fieldLink RX3 19 "Buildlots" "builds" "LBuildlots$Builds;") (List.mem_of_getElem? (i := 1) rfl)) rfl rfl dX3_vouches_11 ?_
      refine r_getN (C := RX0) (T := TX0) (N := 10) (k := 5) (q0 := 2) (v := .ref (q 14)) hx hb hts hi0 hown hI rfl rfl (by decide) (List.mem_of_getElem? (i := 5) rfl) rfl rfl dX3_vouches_14 ?_
      refine lv_iload_n hx hb dX3_vouches_17 rfl (lv_at hl 1 rfl) ?_
      refine r_iald (q0 := 14) (j := (ix b)) (n := 24) (f := (A 10)) hx hb hI rfl hk_b (by omega) (by decide) dX3_vouches_18 ?_
      refine lv_iload_n hx hb dX3_vouches_19 rfl (lv_at hl 2 rfl) ?_
      refine ro_i (va_runS (As := [.int (A 10 (ix b)), .int signer]) (rest := []) ⟨hx, hb, hml, hown, hts⟩ (c_X3_holds l (A 10 (ix b)) signer) (va_cwS 2 hts gX3_vouches_X3_holds rfl rfl rfl (by decide +kernel) ⟨Nat.le_of_ble_eq_true rfl, Nat.le_of_ble_eq_true rfl⟩) preT rfl rfl hl.1 rfl (lv_room (Nat.le_of_ble_eq_true rfl)) dX3_vouches_20 ⟨Nat.le_of_ble_eq_true rfl, Nat.le_of_ble_eq_true rfl⟩) hI hS (fun H locs hI hS => ?_)
      exact end_xoz hx hb hr (nz_bI _) (by first | (simp only [exVouches, exR, x2_1, x7_2, ↓reduceIte, Bool.false_eq_true, reduceCtorEq]; done) | simp [exVouches, exR, x2_1, x7_2]) rfl hS dX3_vouches_23 hlk
    · refine xb_v (E := xIAE) (exR_s x7_2) (vx_runV (As := [.int signer]) (rest := []) ⟨hx, hb, hml, hown, hts⟩ (c_X3_requireSigner l hst D cy h0 q A S signer) (cwV 1 hts gX3_vouches_X3_requireSigner rfl rfl rfl (by decide +kernel) ⟨Nat.le_of_ble_eq_true rfl, Nat.le_of_ble_eq_true rfl⟩) (hI.preV (k0 := 0) rfl rfl) rfl rfl hl.1 rfl (lv_room (Nat.le_of_ble_eq_true rfl)) dX3_vouches_7 (rm_bad (ex' := exVouches b signer nb) (exR_s x7_2) ((by first | (simp only [exVouches, exR, x2_1, x7_2, ↓reduceIte, Bool.false_eq_true, reduceCtorEq]; done) | simp [exVouches, exR, x2_1, x7_2])))) hI hS (fun ce q9 H locs hI hS hce hcv hcl => ?_)
      exact r_out (by first | (simp only [exVouches, exR, x2_1, x7_2, ↓reduceIte, Bool.false_eq_true, reduceCtorEq]; done) | simp [exVouches, exR, x2_1, x7_2]) hS hout hlk hce hcv hcl
  · refine xb_v (E := xIOB) (exR_s x2_1) (vx_runV (As := [.int b]) (rest := []) ⟨hx, hb, hml, hown, hts⟩ (c_X3_requireBuild l hst D cy h0 q A S b nb hnb hcb) (cwV 1 hts gX3_vouches_X3_requireBuild rfl rfl rfl (by decide +kernel) ⟨Nat.le_of_ble_eq_true rfl, Nat.le_of_ble_eq_true rfl⟩) (hI.preV (k0 := 0) rfl rfl) rfl rfl hl.1 rfl (lv_room (Nat.le_of_ble_eq_true rfl)) dX3_vouches_2 (rm_bad (ex' := exVouches b signer nb) (exR_s x2_1) ((by first | (simp only [exVouches, exR, x2_1, ↓reduceIte, Bool.false_eq_true, reduceCtorEq]; done) | simp [exVouches, exR, x2_1])))) hI hS (fun ce q9 H locs hI hS hce hcv hcl => ?_)
    exact r_out (by first | (simp only [exVouches, exR, x2_1, ↓reduceIte, Bool.false_eq_true, reduceCtorEq]; done) | simp [exVouches, exR, x2_1]) hS hout hlk hce hcv hcl

set_option maxHeartbeats 4000000 in
set_option maxRecDepth 100000 in
theorem c_X3_vouchesByList (l : Launch) (hst : l.stackTraces = false) (D : va_G) (cy : Nat → ClassId) (h0 : Nat) (q : Nat → Nat) (A : Nat → Nat → Int32) (S : Nat → Int32) (b : Int32) (signer : Int32) (nk : Nat) (hnk : nk ≤ 8) (hck : S 3 = nI nk) (nb : Nat) (hnb : nb ≤ 24) (hcb : S 5 = nI nb) : vx_Met l yX3_vouchesByList wsX3_vouchesByList (rmX (exVouches b signer nb) 7 103) (va_Pc [.ref (q 0), .int b, .int signer] (pI D cy h0 (wX cy q A S))) (xoI (exVouches b signer nb) (bI (hold (sgF (A 2) (A 9 (ix b) &&& liveF A S (S 1) nk) nk) signer))) (xx (exVouches b signer nb)) (c1 (exVouches b signer nb)) (c6 (exVouches b signer nb)) nof := by
  refine vx_ofW (cc := cX3_vouchesByList) (maxL := 3) (ret := (some .boolean)) (by decide) rfl ?_
  intro p e s m args below meth c s₁ B hml hout hv
  obtain ⟨rfl, hI⟩ := hv
  have hx := B.exec
  have hb := B.bytes
  have hr := B.returns
  have hts := atoms_spec (ws := wsX3_vouchesByList) B.pre
  have hown : s.vm.findClass RX3 = some m.cls := findClass_of_methodNamed B.named
  have hlk := B.notSynchronized
  have hI : IH D cy h0 (wX cy q A S) s s.heap := hI
  have hG := hI.1
  have hS : va_S nof s.heap s.heap [] := va_S.rf
  have hi0 : ∀ w ∈ wsX00, w ∈ wsX3_vouchesByList := by decide +kernel
  have hi1 : ∀ w ∈ wsX10, w ∈ wsX3_vouchesByList := by decide +kernel
  have hi3 : ∀ w ∈ wsX30, w ∈ wsX3_vouchesByList := by decide +kernel
  have hl := lv_entry ([.ref (q 0), .int b, .int signer]) (n := 3) (Nat.le_of_ble_eq_true rfl)
  rw [lg_entry_eq]
  generalize (lg_sl ([.ref (q 0), .int b, .int signer]) ++ List.replicate (3 - (lg_sl ([.ref (q 0), .int b, .int signer])).length) Slot.unset).toArray = ls at hl ⊢
  have hl : lv_has ls 3 [(0, .ref (q 0)), (1, .int b), (2, .int signer)] := hl
  refine lv_aload_n hx hb dX3_vouchesByList_0 rfl (lv_at hl 0 rfl) ?_
  refine lv_iload_n hx hb dX3_vouchesByList_1 rfl (lv_at hl 1 rfl) ?_
  rcases Classical.em (inR b nb = true) with x2_1 | x2_1
  · refine xo_v (exR_n x2_1) (vx_runV (As := [.int b]) (rest := []) ⟨hx, hb, hml, hown, hts⟩ (c_X3_requireBuild l hst D cy h0 q A S b nb hnb hcb) (cwV 1 hts gX3_vouchesByList_X3_requireBuild rfl rfl rfl (by decide +kernel) ⟨Nat.le_of_ble_eq_true rfl, Nat.le_of_ble_eq_true rfl⟩) (hI.preV (k0 := 0) rfl rfl) rfl rfl hl.1 rfl (lv_room (Nat.le_of_ble_eq_true rfl)) dX3_vouchesByList_2 (rm_ok (exR_n x2_1) (Nat.zero_le _) (Nat.zero_le _))) hI hS (fun H locs hI hS => ?_)
    obtain ⟨hj_b, hk_b⟩ := inR_c (by omega) x2_1
    refine lv_aload_n hx hb dX3_vouchesByList_5 rfl (lv_at hl 0 rfl) ?_
    refine lv_iload_n hx hb dX3_vouchesByList_6 rfl (lv_at hl 2 rfl) ?_
    rcases Classical.em (inR signer 4 = true) with x7_2 | x7_2
    · refine xo_v (exR_n x7_2) (vx_runV (As := [.int signer]) (rest := []) ⟨hx, hb, hml, hown, hts⟩ (c_X3_requireSigner l hst D cy h0 q A S signer) (cwV 1 hts gX3_vouchesByList_X3_requireSigner rfl rfl rfl (by decide +kernel) ⟨Nat.le_of_ble_eq_true rfl, Nat.le_of_ble_eq_true rfl⟩) (hI.preV (k0 := 0) rfl rfl) rfl rfl hl.1 rfl (lv_room (Nat.le_of_ble_eq_true rfl)) dX3_vouchesByList_7 (rm_ok (exR_n x7_2) (Nat.zero_le _) (Nat.zero_le _))) hI hS (fun H locs hI hS => ?_)
      obtain ⟨hj_signer, hk_signer⟩ := inR_c (by omega) x7_2
      refine lv_aload_n hx hb dX3_vouchesByList_10 rfl (lv_at hl 0 rfl) ?_
      refine r_get (C := RX3) (T := TX3) (N := 7) (k := 0) (q0 := 0) (v := .ref (q 1)) hx hb hts hi3 hown hI rfl rfl (by decide) (hts (.fieldLink RX3 10 "Buildlots" "keys" "LBuildlots$Keys;") (List.mem_of_getElem? (i := 1) rfl)) rfl rfl dX3_vouchesByList_11 ?_
      refine lv_aload_n hx hb dX3_vouchesByList_14 rfl (lv_at hl 0 rfl) ?_
      refine r_get (C := RX3) (T := TX3) (N := 7) (k := 1) (q0 := 0) (v := .ref (q 2)) hx hb hts hi3 hown hI rfl rfl (by decide) (hts (.fieldLink RX3 19 "Buildlots" "builds" "LBuildlots$Builds;") (List.mem_of_getElem? (i := 2) rfl)) rfl rfl dX3_vouchesByList_15 ?_
      refine r_getN (C := RX0) (T := TX0) (N := 10) (k := 4) (q0 := 2) (v := .ref (q 13)) hx hb hts hi0 hown hI rfl rfl (by decide) (List.mem_of_getElem? (i := 4) rfl) rfl rfl dX3_vouchesByList_18 ?_
      refine lv_iload_n hx hb dX3_vouchesByList_21 rfl (lv_at hl 1 rfl) ?_
      refine r_iald (q0 := 13) (j := (ix b)) (n := 24) (f := (A 9)) hx hb hI rfl hk_b (by omega) (by decide) dX3_vouchesByList_22 ?_
      refine lv_aload_n hx hb dX3_vouchesByList_23 rfl (lv_at hl 0 rfl) ?_
      refine r_get (C := RX3) (T := TX3) (N := 7) (k := 0) (q0 := 0) (v := .ref (q 1)) hx hb hts hi3 hown hI rfl rfl (by decide) (hts (.fieldLink RX3 10 "Buildlots" "keys" "LBuildlots$Keys;") (List.mem_of_getElem? (i := 1) rfl)) rfl rfl dX3_vouchesByList_24 ?_
      refine lv_aload_n hx hb dX3_vouchesByList_27 rfl (lv_at hl 0 rfl) ?_
      refine r_get (C := RX3) (T := TX3) (N := 7) (k := 6) (q0 := 0) (v := .int (S 1)) hx hb hts hi3 hown hI rfl rfl (by decide) (hts (.fieldLink RX3 41 "Buildlots" "today" "I") (List.mem_of_getElem? (i := 3) rfl)) rfl rfl dX3_vouchesByList_28 ?_
      refine ro_i (va_runVN (As := [.int (S 1)]) (rest := [.int (A 9 (ix b)), .ref (q 1)]) ⟨hx, hb, hml, hown, hts⟩ (c_X1_live l D cy h0 q A S (S 1) nk hnk hck) ⟨va_cnB (host := RX3) 1 hts gX3_vouchesByList_X1_live_n162 rfl rfl rfl (hG.1.2.1 (RX3, 162, yX1_live) (List.mem_of_getElem? (i := 16) rfl)) (hts (.initialized RX1) (List.mem_of_getElem? (i := 18) rfl)) (by decide +kernel) ⟨Nat.le_of_ble_eq_true rfl, Nat.le_of_ble_eq_true rfl⟩, (hts (.instanceMethod yX1_live) (List.mem_of_getElem? (i := 17) rfl)), (hts (.selects RX1 yX1_live yX1_live) (List.mem_of_getElem? (i := 19) rfl))⟩ (hI.preV (k0 := 1) rfl rfl) rfl rfl hl.1 rfl (lv_room (Nat.le_of_ble_eq_true rfl)) dX3_vouchesByList_31 ⟨Nat.le_of_ble_eq_true rfl, Nat.le_of_ble_eq_true rfl⟩) hI hS (fun H locs hI hS => ?_)
      refine lv_iand hx hb dX3_vouchesByList_34 ?_
      refine ro_i (va_runVN (As := [.int ((A 9 (ix b)) &&& (liveF A S (S 1) nk))]) (rest := []) ⟨hx, hb, hml, hown, hts⟩ (c_X1_signersOf l D cy h0 q A S ((A 9 (ix b)) &&& (liveF A S (S 1) nk)) nk hnk hck) ⟨va_cnB (host := RX3) 1 hts gX3_vouchesByList_X1_signersOf_n165 rfl rfl rfl (hG.1.2.1 (RX3, 165, yX1_signersOf) (List.mem_of_getElem? (i := 17) rfl)) (hts (.initialized RX1) (List.mem_of_getElem? (i := 18) rfl)) (by decide +kernel) ⟨Nat.le_of_ble_eq_true rfl, Nat.le_of_ble_eq_true rfl⟩, (hts (.instanceMethod yX1_signersOf) (List.mem_of_getElem? (i := 34) rfl)), (hts (.selects RX1 yX1_signersOf yX1_signersOf) (List.mem_of_getElem? (i := 35) rfl))⟩ (hI.preV (k0 := 1) rfl rfl) rfl rfl hl.1 rfl (lv_room (Nat.le_of_ble_eq_true rfl)) dX3_vouchesByList_35 ⟨Nat.le_of_ble_eq_true rfl, Nat.le_of_ble_eq_true rfl⟩) hI hS (fun H locs hI hS => ?_)
      refine lv_iload_n hx hb dX3_vouchesByList_38 rfl (lv_at hl 2 rfl) ?_
      refine ro_i (va_runS (As := [.int (sgF (A 2) ((A 9 (ix b)) &&& (liveF A S (S 1) nk)) nk), .int signer]) (rest := []) ⟨hx, hb, hml, hown, hts⟩ (c_X3_holds l (sgF (A 2) ((A 9 (ix b)) &&& (liveF A S (S 1) nk)) nk) signer) (va_cwS 2 hts gX3_vouchesByList_X3_holds rfl rfl rfl (by decide +kernel) ⟨Nat.le_of_ble_eq_true rfl, Nat.le_of_ble_eq_true rfl⟩) preT rfl rfl hl.1 rfl (lv_room (Nat.le_of_ble_eq_true rfl)) dX3_vouchesByList_39 ⟨Nat.le_of_ble_eq_true rfl, Nat.le_of_ble_eq_true rfl⟩) hI hS (fun H locs hI hS => ?_)
      exact end_xoz hx hb hr (nz_bI _) (by first | (simp only [exVouches, exR, x2_1, x7_2, ↓reduceIte, Bool.false_eq_true, reduceCtorEq]; done) | simp [exVouches, exR, x2_1, x7_2]) rfl hS dX3_vouchesByList_42 hlk
    · refine xb_v (E := xIAE) (exR_s x7_2) (vx_runV (As := [.int signer]) (rest := []) ⟨hx, hb, hml, hown, hts⟩ (c_X3_requireSigner l hst D cy h0 q A S signer) (cwV 1 hts gX3_vouchesByList_X3_requireSigner rfl rfl rfl (by decide +kernel) ⟨Nat.le_of_ble_eq_true rfl, Nat.le_of_ble_eq_true rfl⟩) (hI.preV (k0 := 0) rfl rfl) rfl rfl hl.1 rfl (lv_room (Nat.le_of_ble_eq_true rfl)) dX3_vouchesByList_7 (rm_bad (ex' := exVouches b signer nb) (exR_s x7_2) ((by first | (simp only [exVouches, exR, x2_1, x7_2, ↓reduceIte, Bool.false_eq_true, reduceCtorEq]; done) | simp [exVouches, exR, x2_1, x7_2])))) hI hS (fun ce q9 H locs hI hS hce hcv hcl => ?_)
      exact r_out (by first | (simp only [exVouches, exR, x2_1, x7_2, ↓reduceIte, Bool.false_eq_true, reduceCtorEq]; done) | simp [exVouches, exR, x2_1, x7_2]) hS hout hlk hce hcv hcl
  · refine xb_v (E := xIOB) (exR_s x2_1) (vx_runV (As := [.int b]) (rest := []) ⟨hx, hb, hml, hown, hts⟩ (c_X3_requireBuild l hst D cy h0 q A S b nb hnb hcb) (cwV 1 hts gX3_vouchesByList_X3_requireBuild rfl rfl rfl (by decide +kernel) ⟨Nat.le_of_ble_eq_true rfl, Nat.le_of_ble_eq_true rfl⟩) (hI.preV (k0 := 0) rfl rfl) rfl rfl hl.1 rfl (lv_room (Nat.le_of_ble_eq_true rfl)) dX3_vouchesByList_2 (rm_bad (ex' := exVouches b signer nb) (exR_s x2_1) ((by first | (simp only [exVouches, exR, x2_1, ↓reduceIte, Bool.false_eq_true, reduceCtorEq]; done) | simp [exVouches, exR, x2_1])))) hI hS (fun ce q9 H locs hI hS hce hcv hcl => ?_)
    exact r_out (by first | (simp only [exVouches, exR, x2_1, ↓reduceIte, Bool.false_eq_true, reduceCtorEq]; done) | simp [exVouches, exR, x2_1]) hS hout hlk hce hcv hcl

set_option maxHeartbeats 4000000 in
set_option maxRecDepth 100000 in
theorem c_X3_score (l : Launch) (hst : l.stackTraces = false) (D : va_G) (cy : Nat → ClassId) (h0 : Nat) (q : Nat → Nat) (A : Nat → Nat → Int32) (S : Nat → Int32) (b : Int32) (nb : Nat) (hnb : nb ≤ 24) (hcb : S 5 = nI nb) : vx_Met l yX3_score wsX3_score (rmX (exR b nb xIOB) 7 103) (va_Pc [.ref (q 0), .int b] (pI D cy h0 (wX cy q A S))) (xoF (exR b nb xIOB) (scF (A 0) (A 10 (ix b)) 4)) (xx (exR b nb xIOB)) (c1 (exR b nb xIOB)) (c6 (exR b nb xIOB)) nof := by
  refine vx_ofW (cc := cX3_score) (maxL := 2) (ret := (some .float)) (by decide) rfl ?_
  intro p e s m args below meth c s₁ B hml hout hv
  obtain ⟨rfl, hI⟩ := hv
  have hx := B.exec
  have hb := B.bytes
  have hr := B.returns
  have hts := atoms_spec (ws := wsX3_score) B.pre
  have hown : s.vm.findClass RX3 = some m.cls := findClass_of_methodNamed B.named
  have hlk := B.notSynchronized
  have hI : IH D cy h0 (wX cy q A S) s s.heap := hI
  have hG := hI.1
  have hS : va_S nof s.heap s.heap [] := va_S.rf
  have hi0 : ∀ w ∈ wsX00, w ∈ wsX3_score := by decide +kernel
  have hi3 : ∀ w ∈ wsX30, w ∈ wsX3_score := by decide +kernel
  have hl := lv_entry ([.ref (q 0), .int b]) (n := 2) (Nat.le_of_ble_eq_true rfl)
  rw [lg_entry_eq]
  generalize (lg_sl ([.ref (q 0), .int b]) ++ List.replicate (2 - (lg_sl ([.ref (q 0), .int b])).length) Slot.unset).toArray = ls at hl ⊢
  have hl : lv_has ls 2 [(0, .ref (q 0)), (1, .int b)] := hl
  refine lv_aload_n hx hb dX3_score_0 rfl (lv_at hl 0 rfl) ?_
  refine lv_iload_n hx hb dX3_score_1 rfl (lv_at hl 1 rfl) ?_
  rcases Classical.em (inR b nb = true) with x2_1 | x2_1
  · refine xo_v (exR_n x2_1) (vx_runV (As := [.int b]) (rest := []) ⟨hx, hb, hml, hown, hts⟩ (c_X3_requireBuild l hst D cy h0 q A S b nb hnb hcb) (cwV 1 hts gX3_score_X3_requireBuild rfl rfl rfl (by decide +kernel) ⟨Nat.le_of_ble_eq_true rfl, Nat.le_of_ble_eq_true rfl⟩) (hI.preV (k0 := 0) rfl rfl) rfl rfl hl.1 rfl (lv_room (Nat.le_of_ble_eq_true rfl)) dX3_score_2 (rm_ok (exR_n x2_1) (Nat.zero_le _) (Nat.zero_le _))) hI hS (fun H locs hI hS => ?_)
    obtain ⟨hj_b, hk_b⟩ := inR_c (by omega) x2_1
    refine lv_aload_n hx hb dX3_score_5 rfl (lv_at hl 0 rfl) ?_
    refine lv_aload_n hx hb dX3_score_6 rfl (lv_at hl 0 rfl) ?_
    refine r_get (C := RX3) (T := TX3) (N := 7) (k := 1) (q0 := 0) (v := .ref (q 2)) hx hb hts hi3 hown hI rfl rfl (by decide) (hts (.fieldLink RX3 19 "Buildlots" "builds" "LBuildlots$Builds;") (List.mem_of_getElem? (i := 1) rfl)) rfl rfl dX3_score_7 ?_
    refine r_getN (C := RX0) (T := TX0) (N := 10) (k := 5) (q0 := 2) (v := .ref (q 14)) hx hb hts hi0 hown hI rfl rfl (by decide) (List.mem_of_getElem? (i := 5) rfl) rfl rfl dX3_score_10 ?_
    refine lv_iload_n hx hb dX3_score_13 rfl (lv_at hl 1 rfl) ?_
    refine r_iald (q0 := 14) (j := (ix b)) (n := 24) (f := (A 10)) hx hb hI rfl hk_b (by omega) (by decide) dX3_score_14 ?_
    refine ro_f (va_runV (As := [.int (A 10 (ix b))]) (rest := []) ⟨hx, hb, hml, hown, hts⟩ (c_X3_scoreFrom l D cy h0 q A S (A 10 (ix b))) (cwV 1 hts gX3_score_X3_scoreFrom rfl rfl rfl (by decide +kernel) ⟨Nat.le_of_ble_eq_true rfl, Nat.le_of_ble_eq_true rfl⟩) (hI.preV (k0 := 0) rfl rfl) rfl rfl hl.1 rfl (lv_room (Nat.le_of_ble_eq_true rfl)) dX3_score_15 ⟨Nat.le_of_ble_eq_true rfl, Nat.le_of_ble_eq_true rfl⟩) hI hS (fun H locs hI hS => ?_)
    exact end_xof hx hb hr (by first | (simp only [exR, x2_1, ↓reduceIte, Bool.false_eq_true, reduceCtorEq]; done) | simp [exR, x2_1]) rfl hS dX3_score_18 hlk
  · refine xb_v (E := xIOB) (exR_s x2_1) (vx_runV (As := [.int b]) (rest := []) ⟨hx, hb, hml, hown, hts⟩ (c_X3_requireBuild l hst D cy h0 q A S b nb hnb hcb) (cwV 1 hts gX3_score_X3_requireBuild rfl rfl rfl (by decide +kernel) ⟨Nat.le_of_ble_eq_true rfl, Nat.le_of_ble_eq_true rfl⟩) (hI.preV (k0 := 0) rfl rfl) rfl rfl hl.1 rfl (lv_room (Nat.le_of_ble_eq_true rfl)) dX3_score_2 (rm_bad (ex' := exR b nb xIOB) (exR_s x2_1) ((by first | (simp only [exR, x2_1, ↓reduceIte, Bool.false_eq_true, reduceCtorEq]; done) | simp [exR, x2_1])))) hI hS (fun ce q9 H locs hI hS hce hcv hcl => ?_)
    exact r_out (by first | (simp only [exR, x2_1, ↓reduceIte, Bool.false_eq_true, reduceCtorEq]; done) | simp [exR, x2_1]) hS hout hlk hce hcv hcl

set_option maxHeartbeats 4000000 in
set_option maxRecDepth 100000 in
theorem c_X3_isTrusted (l : Launch) (hst : l.stackTraces = false) (D : va_G) (cy : Nat → ClassId) (h0 : Nat) (q : Nat → Nat) (A : Nat → Nat → Int32) (S : Nat → Int32) (b : Int32) (nb : Nat) (hnb : nb ≤ 24) (hcb : S 5 = nI nb) (htn : ∀ b, b < nb → ∃ t, t < 5 ∧ A 5 b = nI t) : vx_Met l yX3_isTrusted wsX3_isTrusted (rmX (exR b nb xIOB) 7 103) (va_Pc [.ref (q 0), .int b] (pI D cy h0 (wX cy q A S))) (xoI (exR b nb xIOB) (bI (sufB A (A 10 (ix b)) (ix b)))) (xx (exR b nb xIOB)) (c1 (exR b nb xIOB)) (c6 (exR b nb xIOB)) nof := by
  refine vx_ofW (cc := cX3_isTrusted) (maxL := 2) (ret := (some .boolean)) (by decide) rfl ?_
  intro p e s m args below meth c s₁ B hml hout hv
  obtain ⟨rfl, hI⟩ := hv
  have hx := B.exec
  have hb := B.bytes
  have hr := B.returns
  have hts := atoms_spec (ws := wsX3_isTrusted) B.pre
  have hown : s.vm.findClass RX3 = some m.cls := findClass_of_methodNamed B.named
  have hlk := B.notSynchronized
  have hI : IH D cy h0 (wX cy q A S) s s.heap := hI
  have hG := hI.1
  have hS : va_S nof s.heap s.heap [] := va_S.rf
  have hi0 : ∀ w ∈ wsX00, w ∈ wsX3_isTrusted := by decide +kernel
  have hi3 : ∀ w ∈ wsX30, w ∈ wsX3_isTrusted := by decide +kernel
  have hl := lv_entry ([.ref (q 0), .int b]) (n := 2) (Nat.le_of_ble_eq_true rfl)
  rw [lg_entry_eq]
  generalize (lg_sl ([.ref (q 0), .int b]) ++ List.replicate (2 - (lg_sl ([.ref (q 0), .int b])).length) Slot.unset).toArray = ls at hl ⊢
  have hl : lv_has ls 2 [(0, .ref (q 0)), (1, .int b)] := hl
  refine lv_aload_n hx hb dX3_isTrusted_0 rfl (lv_at hl 0 rfl) ?_
  refine lv_iload_n hx hb dX3_isTrusted_1 rfl (lv_at hl 1 rfl) ?_
  rcases Classical.em (inR b nb = true) with x2_1 | x2_1
  · refine xo_v (exR_n x2_1) (vx_runV (As := [.int b]) (rest := []) ⟨hx, hb, hml, hown, hts⟩ (c_X3_requireBuild l hst D cy h0 q A S b nb hnb hcb) (cwV 1 hts gX3_isTrusted_X3_requireBuild rfl rfl rfl (by decide +kernel) ⟨Nat.le_of_ble_eq_true rfl, Nat.le_of_ble_eq_true rfl⟩) (hI.preV (k0 := 0) rfl rfl) rfl rfl hl.1 rfl (lv_room (Nat.le_of_ble_eq_true rfl)) dX3_isTrusted_2 (rm_ok (exR_n x2_1) (Nat.zero_le _) (Nat.zero_le _))) hI hS (fun H locs hI hS => ?_)
    obtain ⟨hj_b, hk_b⟩ := inR_c (by omega) x2_1
    refine lv_aload_n hx hb dX3_isTrusted_5 rfl (lv_at hl 0 rfl) ?_
    refine lv_aload_n hx hb dX3_isTrusted_6 rfl (lv_at hl 0 rfl) ?_
    refine r_get (C := RX3) (T := TX3) (N := 7) (k := 1) (q0 := 0) (v := .ref (q 2)) hx hb hts hi3 hown hI rfl rfl (by decide) (hts (.fieldLink RX3 19 "Buildlots" "builds" "LBuildlots$Builds;") (List.mem_of_getElem? (i := 1) rfl)) rfl rfl dX3_isTrusted_7 ?_
    refine r_getN (C := RX0) (T := TX0) (N := 10) (k := 5) (q0 := 2) (v := .ref (q 14)) hx hb hts hi0 hown hI rfl rfl (by decide) (List.mem_of_getElem? (i := 5) rfl) rfl rfl dX3_isTrusted_10 ?_
    refine lv_iload_n hx hb dX3_isTrusted_13 rfl (lv_at hl 1 rfl) ?_
    refine r_iald (q0 := 14) (j := (ix b)) (n := 24) (f := (A 10)) hx hb hI rfl hk_b (by omega) (by decide) dX3_isTrusted_14 ?_
    refine lv_iload_n hx hb dX3_isTrusted_15 rfl (lv_at hl 1 rfl) ?_
    refine ro_i (va_runV (As := [.int (A 10 (ix b)), .int b]) (rest := []) ⟨hx, hb, hml, hown, hts⟩ (c_X3_suffices l D cy h0 q A S (A 10 (ix b)) b (ix b) (by omega) hk_b (htn _ (by omega))) (cwV 2 hts gX3_isTrusted_X3_suffices rfl rfl rfl (by decide +kernel) ⟨Nat.le_of_ble_eq_true rfl, Nat.le_of_ble_eq_true rfl⟩) (hI.preV (k0 := 0) rfl rfl) rfl rfl hl.1 rfl (lv_room (Nat.le_of_ble_eq_true rfl)) dX3_isTrusted_16 ⟨Nat.le_of_ble_eq_true rfl, Nat.le_of_ble_eq_true rfl⟩) hI hS (fun H locs hI hS => ?_)
    exact end_xoz hx hb hr (nz_bI _) (by first | (simp only [exR, x2_1, ↓reduceIte, Bool.false_eq_true, reduceCtorEq]; done) | simp [exR, x2_1]) rfl hS dX3_isTrusted_19 hlk
  · refine xb_v (E := xIOB) (exR_s x2_1) (vx_runV (As := [.int b]) (rest := []) ⟨hx, hb, hml, hown, hts⟩ (c_X3_requireBuild l hst D cy h0 q A S b nb hnb hcb) (cwV 1 hts gX3_isTrusted_X3_requireBuild rfl rfl rfl (by decide +kernel) ⟨Nat.le_of_ble_eq_true rfl, Nat.le_of_ble_eq_true rfl⟩) (hI.preV (k0 := 0) rfl rfl) rfl rfl hl.1 rfl (lv_room (Nat.le_of_ble_eq_true rfl)) dX3_isTrusted_2 (rm_bad (ex' := exR b nb xIOB) (exR_s x2_1) ((by first | (simp only [exR, x2_1, ↓reduceIte, Bool.false_eq_true, reduceCtorEq]; done) | simp [exR, x2_1])))) hI hS (fun ce q9 H locs hI hS hce hcv hcl => ?_)
    exact r_out (by first | (simp only [exR, x2_1, ↓reduceIte, Bool.false_eq_true, reduceCtorEq]; done) | simp [exR, x2_1]) hS hout hlk hce hcv hcl

set_option maxHeartbeats 4000000 in
set_option maxRecDepth 100000 in
theorem c_X3_hangsOnKey (l : Launch) (hst : l.stackTraces = false) (D : va_G) (cy : Nat → ClassId) (h0 : Nat) (q : Nat → Nat) (A : Nat → Nat → Int32) (S : Nat → Int32) (key : Int32) (nk : Nat) (hnk : nk ≤ 8) (hck : S 3 = nI nk) (nb : Nat) (hnb : nb ≤ 24) (hcb : S 5 = nI nb) (htn : ∀ b, b < nb → ∃ t, t < 5 ∧ A 5 b = nI t) : vx_Met l yX3_hangsOnKey wsX3_hangsOnKey (rmX (exR key nk xIOB) 7 103) (va_Pc [.ref (q 0), .int key] (pI D cy h0 (wX cy q A S))) (xoI (exR key nk xIOB) (hgF A (liveF A S (S 1) nk &&& (ly key ^^^ (-1))) nk nb)) (xx (exR key nk xIOB)) (c1 (exR key nk xIOB)) (c6 (exR key nk xIOB)) nof := by
  refine vx_ofW (cc := cX3_hangsOnKey) (maxL := 6) (ret := (some .int)) (by decide) rfl ?_
  intro p e s m args below meth c s₁ B hml hout hv
  obtain ⟨rfl, hI⟩ := hv
  have hx := B.exec
  have hb := B.bytes
  have hr := B.returns
  have hts := atoms_spec (ws := wsX3_hangsOnKey) B.pre
  have hown : s.vm.findClass RX3 = some m.cls := findClass_of_methodNamed B.named
  have hlk := B.notSynchronized
  have hI : IH D cy h0 (wX cy q A S) s s.heap := hI
  have hG := hI.1
  have hS : va_S nof s.heap s.heap [] := va_S.rf
  have hi0 : ∀ w ∈ wsX00, w ∈ wsX3_hangsOnKey := by decide +kernel
  have hi1 : ∀ w ∈ wsX10, w ∈ wsX3_hangsOnKey := by decide +kernel
  have hi3 : ∀ w ∈ wsX30, w ∈ wsX3_hangsOnKey := by decide +kernel
  have hl := lv_entry ([.ref (q 0), .int key]) (n := 6) (Nat.le_of_ble_eq_true rfl)
  rw [lg_entry_eq]
  generalize (lg_sl ([.ref (q 0), .int key]) ++ List.replicate (6 - (lg_sl ([.ref (q 0), .int key])).length) Slot.unset).toArray = ls at hl ⊢
  have hl : lv_has ls 6 [(0, .ref (q 0)), (1, .int key)] := hl
  refine lv_aload_n hx hb dX3_hangsOnKey_0 rfl (lv_at hl 0 rfl) ?_
  refine lv_iload_n hx hb dX3_hangsOnKey_1 rfl (lv_at hl 1 rfl) ?_
  rcases Classical.em (inR key nk = true) with x2_1 | x2_1
  · refine xo_v (exR_n x2_1) (vx_runV (As := [.int key]) (rest := []) ⟨hx, hb, hml, hown, hts⟩ (c_X3_requireKey l hst D cy h0 q A S key nk hnk hck) (cwV 1 hts gX3_hangsOnKey_X3_requireKey rfl rfl rfl (by decide +kernel) ⟨Nat.le_of_ble_eq_true rfl, Nat.le_of_ble_eq_true rfl⟩) (hI.preV (k0 := 0) rfl rfl) rfl rfl hl.1 rfl (lv_room (Nat.le_of_ble_eq_true rfl)) dX3_hangsOnKey_2 (rm_ok (exR_n x2_1) (Nat.zero_le _) (Nat.zero_le _))) hI hS (fun H locs hI hS => ?_)
    obtain ⟨hj_key, hk_key⟩ := inR_c (by omega) x2_1
    refine lv_aload_n hx hb dX3_hangsOnKey_5 rfl (lv_at hl 0 rfl) ?_
    refine r_get (C := RX3) (T := TX3) (N := 7) (k := 0) (q0 := 0) (v := .ref (q 1)) hx hb hts hi3 hown hI rfl rfl (by decide) (hts (.fieldLink RX3 10 "Buildlots" "keys" "LBuildlots$Keys;") (List.mem_of_getElem? (i := 1) rfl)) rfl rfl dX3_hangsOnKey_6 ?_
    refine lv_aload_n hx hb dX3_hangsOnKey_9 rfl (lv_at hl 0 rfl) ?_
    refine r_get (C := RX3) (T := TX3) (N := 7) (k := 6) (q0 := 0) (v := .int (S 1)) hx hb hts hi3 hown hI rfl rfl (by decide) (hts (.fieldLink RX3 41 "Buildlots" "today" "I") (List.mem_of_getElem? (i := 2) rfl)) rfl rfl dX3_hangsOnKey_10 ?_
    refine ro_i (va_runVN (As := [.int (S 1)]) (rest := []) ⟨hx, hb, hml, hown, hts⟩ (c_X1_live l D cy h0 q A S (S 1) nk hnk hck) ⟨va_cnB (host := RX3) 1 hts gX3_hangsOnKey_X1_live_n162 rfl rfl rfl (hG.1.2.1 (RX3, 162, yX1_live) (List.mem_of_getElem? (i := 16) rfl)) (hts (.initialized RX1) (List.mem_of_getElem? (i := 12) rfl)) (by decide +kernel) ⟨Nat.le_of_ble_eq_true rfl, Nat.le_of_ble_eq_true rfl⟩, (hts (.instanceMethod yX1_live) (List.mem_of_getElem? (i := 11) rfl)), (hts (.selects RX1 yX1_live yX1_live) (List.mem_of_getElem? (i := 13) rfl))⟩ (hI.preV (k0 := 1) rfl rfl) rfl rfl hl.1 rfl (lv_room (Nat.le_of_ble_eq_true rfl)) dX3_hangsOnKey_13 ⟨Nat.le_of_ble_eq_true rfl, Nat.le_of_ble_eq_true rfl⟩) hI hS (fun H locs hI hS => ?_)
    refine lv_iload_n hx hb dX3_hangsOnKey_16 rfl (lv_at hl 1 rfl) ?_
    refine ro_i (va_runS (As := [.int key]) (rest := [.int (liveF A S (S 1) nk)]) ⟨hx, hb, hml, hown, hts⟩ (c_X3_only l key) (va_cwS 1 hts gX3_hangsOnKey_X3_only rfl rfl rfl (by decide +kernel) ⟨Nat.le_of_ble_eq_true rfl, Nat.le_of_ble_eq_true rfl⟩) preT rfl rfl hl.1 rfl (lv_room (Nat.le_of_ble_eq_true rfl)) dX3_hangsOnKey_17 ⟨Nat.le_of_ble_eq_true rfl, Nat.le_of_ble_eq_true rfl⟩) hI hS (fun H locs hI hS => ?_)
    refine lv_iconst (v := (-1)) hx hb dX3_hangsOnKey_20 (by decide) ?_
    refine lv_ixor hx hb dX3_hangsOnKey_21 ?_
    refine lv_iand hx hb dX3_hangsOnKey_22 ?_
    refine lv_istore_n (lv' := [(2, .int ((liveF A S (S 1) nk) &&& ((ly key) ^^^ (-1)))), (0, .ref (q 0)), (1, .int key)]) hx hb dX3_hangsOnKey_23 rfl hl (by decide) rfl (fun ls hl => ?_)
    refine lv_iconst (v := 0) hx hb dX3_hangsOnKey_24 (by decide) ?_
    refine lv_istore_n (lv' := [(3, .int 0), (2, .int ((liveF A S (S 1) nk) &&& ((ly key) ^^^ (-1)))), (0, .ref (q 0)), (1, .int key)]) hx hb dX3_hangsOnKey_25 rfl hl (by decide) rfl (fun ls hl => ?_)
    refine lv_iconst (v := 0) hx hb dX3_hangsOnKey_26 (by decide) ?_
    refine lv_istore (lv' := [(4, .int 0), (3, .int 0), (2, .int ((liveF A S (S 1) nk) &&& ((ly key) ^^^ (-1)))), (0, .ref (q 0)), (1, .int key)]) hx hb dX3_hangsOnKey_27 hl (by decide) rfl (fun ls hl => ?_)
    suffices KL29 : ∀ (n9 k : Nat), k + n9 = nb → ∀ (H : Heap) (locs : List Loc), IH D cy h0 (wX cy q A S) s H → va_S (nof) s.heap H locs → ∀ ls : Array Slot, lv_has ls 6 [(4, .int (nI k)), (3, .int (hgF A (liveF A S (S 1) nk &&& (ly key ^^^ (-1))) nk k)), (2, .int ((liveF A S (S 1) nk) &&& ((ly key) ^^^ (-1)))), (0, .ref (q 0)), (1, .int key)] → W p l e (headSpec wsX3_hangsOnKey (rmX (exR key nk xIOB) 7 103)).room s m ([.ref (q 0), .int key]).toArray below meth c H locs 0 0 (vx_MQ below (xoI (exR key nk xIOB) (hgF A (liveF A S (S 1) nk &&& (ly key ^^^ (-1))) nk nb)) (xx (exR key nk xIOB)) ([.ref (q 0), .int key]).toArray s (c1 (exR key nk xIOB)) (c6 (exR key nk xIOB)) nof) (F0 m 29 ls []) by
      exact KL29 nb 0 (by omega) _ _ hI hS ls ((lv_sub hl [0, 1, 2, 3, 4] rfl))
    intro n9
    induction n9 with
    | zero =>
      intro k hk H locs hI hS ls hl
      have hk : nb = k := by omega
      subst hk
      refine lv_iload hx hb dX3_hangsOnKey_29 (lv_at hl 0 rfl) ?_
      refine lv_aload_n hx hb dX3_hangsOnKey_31 rfl (lv_at hl 3 rfl) ?_
      refine r_get (C := RX3) (T := TX3) (N := 7) (k := 1) (q0 := 0) (v := .ref (q 2)) hx hb hts hi3 hown hI rfl rfl (by decide) (hts (.fieldLink RX3 19 "Buildlots" "builds" "LBuildlots$Builds;") (List.mem_of_getElem? (i := 3) rfl)) rfl rfl dX3_hangsOnKey_32 ?_
      refine r_getN (C := RX0) (T := TX0) (N := 10) (k := 9) (q0 := 2) (v := .int (S 5)) hx hb hts hi0 hown hI rfl rfl (by decide) (List.mem_of_getElem? (i := 0) rfl) rfl rfl dX3_hangsOnKey_35 ?_
      refine lv_icmp_ge (tgt := 101) hx hb dX3_hangsOnKey_38 (by decide) (fun c38_2 => ?_) (fun c38_2 => ?_)
      rotate_left
      · exact absurd (i_ge rfl hcb (Nat.le_refl _) (by omega)) c38_2
      refine lv_iload_n hx hb dX3_hangsOnKey_101 rfl (lv_at hl 1 rfl) ?_
      exact end_xoi hx hb hr (by first | (simp only [exR, x2_1, c38_2, ↓reduceIte, Bool.false_eq_true, reduceCtorEq]; done) | simp [exR, x2_1, c38_2]) rfl hS dX3_hangsOnKey_102 hlk
    | succ n9 ih29 =>
      intro k hk H locs hI hS ls hl
      have hk29 : k < nb := by omega
      refine lv_iload hx hb dX3_hangsOnKey_29 (lv_at hl 0 rfl) ?_
      refine lv_aload_n hx hb dX3_hangsOnKey_31 rfl (lv_at hl 3 rfl) ?_
      refine r_get (C := RX3) (T := TX3) (N := 7) (k := 1) (q0 := 0) (v := .ref (q 2)) hx hb hts hi3 hown hI rfl rfl (by decide) (hts (.fieldLink RX3 19 "Buildlots" "builds" "LBuildlots$Builds;") (List.mem_of_getElem? (i := 3) rfl)) rfl rfl dX3_hangsOnKey_32 ?_
      refine r_getN (C := RX0) (T := TX0) (N := 10) (k := 9) (q0 := 2) (v := .int (S 5)) hx hb hts hi0 hown hI rfl rfl (by decide) (List.mem_of_getElem? (i := 0) rfl) rfl rfl dX3_hangsOnKey_35 ?_
      refine lv_icmp_ge (tgt := 101) hx hb dX3_hangsOnKey_38 (by decide) (fun c38_3 => ?_) (fun c38_3 => ?_)
      · exact absurd c38_3 (i_nge rfl hcb (by omega) (by omega))
      refine lv_aload_n hx hb dX3_hangsOnKey_41 rfl (lv_at hl 3 rfl) ?_
      refine r_get (C := RX3) (T := TX3) (N := 7) (k := 0) (q0 := 0) (v := .ref (q 1)) hx hb hts hi3 hown hI rfl rfl (by decide) (hts (.fieldLink RX3 10 "Buildlots" "keys" "LBuildlots$Keys;") (List.mem_of_getElem? (i := 1) rfl)) rfl rfl dX3_hangsOnKey_42 ?_
      refine lv_aload_n hx hb dX3_hangsOnKey_45 rfl (lv_at hl 3 rfl) ?_
      refine r_get (C := RX3) (T := TX3) (N := 7) (k := 1) (q0 := 0) (v := .ref (q 2)) hx hb hts hi3 hown hI rfl rfl (by decide) (hts (.fieldLink RX3 19 "Buildlots" "builds" "LBuildlots$Builds;") (List.mem_of_getElem? (i := 3) rfl)) rfl rfl dX3_hangsOnKey_46 ?_
      refine r_getN (C := RX0) (T := TX0) (N := 10) (k := 4) (q0 := 2) (v := .ref (q 13)) hx hb hts hi0 hown hI rfl rfl (by decide) (List.mem_of_getElem? (i := 4) rfl) rfl rfl dX3_hangsOnKey_49 ?_
      refine lv_iload hx hb dX3_hangsOnKey_52 (lv_at hl 0 rfl) ?_
      refine r_iald (q0 := 13) (j := k) (n := 24) (f := (A 9)) hx hb hI rfl rfl (by omega) (by decide) dX3_hangsOnKey_54 ?_
      refine lv_iload_n hx hb dX3_hangsOnKey_55 rfl (lv_at hl 2 rfl) ?_
      refine lv_iand hx hb dX3_hangsOnKey_56 ?_
      refine ro_i (va_runVN (As := [.int ((A 9 k) &&& ((liveF A S (S 1) nk) &&& ((ly key) ^^^ (-1))))]) (rest := []) ⟨hx, hb, hml, hown, hts⟩ (c_X1_signersOf l D cy h0 q A S ((A 9 k) &&& ((liveF A S (S 1) nk) &&& ((ly key) ^^^ (-1)))) nk hnk hck) ⟨va_cnB (host := RX3) 1 hts gX3_hangsOnKey_X1_signersOf_n165 rfl rfl rfl (hG.1.2.1 (RX3, 165, yX1_signersOf) (List.mem_of_getElem? (i := 17) rfl)) (hts (.initialized RX1) (List.mem_of_getElem? (i := 12) rfl)) (by decide +kernel) ⟨Nat.le_of_ble_eq_true rfl, Nat.le_of_ble_eq_true rfl⟩, (hts (.instanceMethod yX1_signersOf) (List.mem_of_getElem? (i := 28) rfl)), (hts (.selects RX1 yX1_signersOf yX1_signersOf) (List.mem_of_getElem? (i := 29) rfl))⟩ (hI.preV (k0 := 1) rfl rfl) rfl rfl hl.1 rfl (lv_room (Nat.le_of_ble_eq_true rfl)) dX3_hangsOnKey_57 ⟨Nat.le_of_ble_eq_true rfl, Nat.le_of_ble_eq_true rfl⟩) hI hS (fun H locs hI hS => ?_)
      refine lv_istore (lv' := [(5, .int (sgF (A 2) ((A 9 k) &&& ((liveF A S (S 1) nk) &&& ((ly key) ^^^ (-1)))) nk)), (4, .int (nI k)), (3, .int (hgF A (liveF A S (S 1) nk &&& (ly key ^^^ (-1))) nk k)), (2, .int ((liveF A S (S 1) nk) &&& ((ly key) ^^^ (-1)))), (0, .ref (q 0)), (1, .int key)]) hx hb dX3_hangsOnKey_60 hl (by decide) rfl (fun ls hl => ?_)
      refine lv_aload_n hx hb dX3_hangsOnKey_62 rfl (lv_at hl 4 rfl) ?_
      refine lv_aload_n hx hb dX3_hangsOnKey_63 rfl (lv_at hl 4 rfl) ?_
      refine r_get (C := RX3) (T := TX3) (N := 7) (k := 1) (q0 := 0) (v := .ref (q 2)) hx hb hts hi3 hown hI rfl rfl (by decide) (hts (.fieldLink RX3 19 "Buildlots" "builds" "LBuildlots$Builds;") (List.mem_of_getElem? (i := 3) rfl)) rfl rfl dX3_hangsOnKey_64 ?_
      refine r_getN (C := RX0) (T := TX0) (N := 10) (k := 5) (q0 := 2) (v := .ref (q 14)) hx hb hts hi0 hown hI rfl rfl (by decide) (List.mem_of_getElem? (i := 5) rfl) rfl rfl dX3_hangsOnKey_67 ?_
      refine lv_iload hx hb dX3_hangsOnKey_70 (lv_at hl 1 rfl) ?_
      refine r_iald (q0 := 14) (j := k) (n := 24) (f := (A 10)) hx hb hI rfl rfl (by omega) (by decide) dX3_hangsOnKey_72 ?_
      refine lv_iload hx hb dX3_hangsOnKey_73 (lv_at hl 1 rfl) ?_
      refine ro_i (va_runV (As := [.int (A 10 k), .int (nI k)]) (rest := []) ⟨hx, hb, hml, hown, hts⟩ (c_X3_suffices l D cy h0 q A S (A 10 k) (nI k) k (by omega) rfl (htn k (by omega))) (cwV 2 hts gX3_hangsOnKey_X3_suffices rfl rfl rfl (by decide +kernel) ⟨Nat.le_of_ble_eq_true rfl, Nat.le_of_ble_eq_true rfl⟩) (hI.preV (k0 := 0) rfl rfl) rfl rfl hl.1 rfl (lv_room (Nat.le_of_ble_eq_true rfl)) dX3_hangsOnKey_75 ⟨Nat.le_of_ble_eq_true rfl, Nat.le_of_ble_eq_true rfl⟩) hI hS (fun H locs hI hS => ?_)
      refine r_ifeq_b (tgt := 95) hx hb dX3_hangsOnKey_78 (by decide) (fun c78_4 => ?_) (fun c78_4 => ?_)
      · refine lv_iinc (v := nI (k + 1)) (lv' := [(4, .int (nI (k + 1))), (5, .int (sgF (A 2) ((A 9 k) &&& ((liveF A S (S 1) nk) &&& ((ly key) ^^^ (-1)))) nk)), (3, .int (hgF A (liveF A S (S 1) nk &&& (ly key ^^^ (-1))) nk k)), (2, .int ((liveF A S (S 1) nk) &&& ((ly key) ^^^ (-1)))), (0, .ref (q 0)), (1, .int key)]) hx hb dX3_hangsOnKey_95 hl (k := 1) rfl (nI_1 k) (by decide) rfl (fun ls hl => ?_)
        refine lv_goto (tgt := 29) hx hb dX3_hangsOnKey_98 (by decide) ?_
        rw [show (hgF A (liveF A S (S 1) nk &&& (ly key ^^^ (-1))) nk k) = (hgF A (liveF A S (S 1) nk &&& (ly key ^^^ (-1))) nk (k + 1)) from (by first | (simp only [hgF, x2_1, c38_3, c78_4, ↓reduceIte, Bool.false_eq_true, reduceCtorEq]; done) | simp [hgF, x2_1, c38_3, c78_4])] at hl
        exact ih29 (k + 1) (by omega) _ _ hI hS ls (lv_sub hl [0, 2, 3, 4, 5] rfl)
      · refine lv_aload_n hx hb dX3_hangsOnKey_81 rfl (lv_at hl 4 rfl) ?_
        refine lv_iload hx hb dX3_hangsOnKey_82 (lv_at hl 0 rfl) ?_
        refine lv_iload hx hb dX3_hangsOnKey_84 (lv_at hl 1 rfl) ?_
        refine ro_i (va_runV (As := [.int (sgF (A 2) ((A 9 k) &&& ((liveF A S (S 1) nk) &&& ((ly key) ^^^ (-1)))) nk), .int (nI k)]) (rest := []) ⟨hx, hb, hml, hown, hts⟩ (c_X3_suffices l D cy h0 q A S (sgF (A 2) ((A 9 k) &&& ((liveF A S (S 1) nk) &&& ((ly key) ^^^ (-1)))) nk) (nI k) k (by omega) rfl (htn k (by omega))) (cwV 2 hts gX3_hangsOnKey_X3_suffices rfl rfl rfl (by decide +kernel) ⟨Nat.le_of_ble_eq_true rfl, Nat.le_of_ble_eq_true rfl⟩) (hI.preV (k0 := 0) rfl rfl) rfl rfl hl.1 rfl (lv_room (Nat.le_of_ble_eq_true rfl)) dX3_hangsOnKey_86 ⟨Nat.le_of_ble_eq_true rfl, Nat.le_of_ble_eq_true rfl⟩) hI hS (fun H locs hI hS => ?_)
        refine r_ifne_b (tgt := 95) hx hb dX3_hangsOnKey_89 (by decide) (fun c89_5 => ?_) (fun c89_5 => ?_)
        · refine lv_iinc (v := nI (k + 1)) (lv' := [(4, .int (nI (k + 1))), (5, .int (sgF (A 2) ((A 9 k) &&& ((liveF A S (S 1) nk) &&& ((ly key) ^^^ (-1)))) nk)), (3, .int (hgF A (liveF A S (S 1) nk &&& (ly key ^^^ (-1))) nk k)), (2, .int ((liveF A S (S 1) nk) &&& ((ly key) ^^^ (-1)))), (0, .ref (q 0)), (1, .int key)]) hx hb dX3_hangsOnKey_95 hl (k := 1) rfl (nI_1 k) (by decide) rfl (fun ls hl => ?_)
          refine lv_goto (tgt := 29) hx hb dX3_hangsOnKey_98 (by decide) ?_
          rw [show (hgF A (liveF A S (S 1) nk &&& (ly key ^^^ (-1))) nk k) = (hgF A (liveF A S (S 1) nk &&& (ly key ^^^ (-1))) nk (k + 1)) from (by first | (simp only [hgF, x2_1, c38_3, c78_4, c89_5, ↓reduceIte, Bool.false_eq_true, reduceCtorEq]; done) | simp [hgF, x2_1, c38_3, c78_4, c89_5])] at hl
          exact ih29 (k + 1) (by omega) _ _ hI hS ls (lv_sub hl [0, 2, 3, 4, 5] rfl)
        · refine lv_iinc (v := (hgF A (liveF A S (S 1) nk &&& (ly key ^^^ (-1))) nk k) + 1) (lv' := [(3, .int ((hgF A (liveF A S (S 1) nk &&& (ly key ^^^ (-1))) nk k) + 1)), (5, .int (sgF (A 2) ((A 9 k) &&& ((liveF A S (S 1) nk) &&& ((ly key) ^^^ (-1)))) nk)), (4, .int (nI k)), (2, .int ((liveF A S (S 1) nk) &&& ((ly key) ^^^ (-1)))), (0, .ref (q 0)), (1, .int key)]) hx hb dX3_hangsOnKey_92 hl (k := 2) rfl rfl (by decide) rfl (fun ls hl => ?_)
          refine lv_iinc (v := nI (k + 1)) (lv' := [(4, .int (nI (k + 1))), (3, .int ((hgF A (liveF A S (S 1) nk &&& (ly key ^^^ (-1))) nk k) + 1)), (5, .int (sgF (A 2) ((A 9 k) &&& ((liveF A S (S 1) nk) &&& ((ly key) ^^^ (-1)))) nk)), (2, .int ((liveF A S (S 1) nk) &&& ((ly key) ^^^ (-1)))), (0, .ref (q 0)), (1, .int key)]) hx hb dX3_hangsOnKey_95 hl (k := 2) rfl (nI_1 k) (by decide) rfl (fun ls hl => ?_)
          refine lv_goto (tgt := 29) hx hb dX3_hangsOnKey_98 (by decide) ?_
          rw [show ((hgF A (liveF A S (S 1) nk &&& (ly key ^^^ (-1))) nk k) + 1) = (hgF A (liveF A S (S 1) nk &&& (ly key ^^^ (-1))) nk (k + 1)) from (by first | (simp only [hgF, x2_1, c38_3, c78_4, c89_5, ↓reduceIte, Bool.false_eq_true, reduceCtorEq]; done) | simp [hgF, x2_1, c38_3, c78_4, c89_5])] at hl
          exact ih29 (k + 1) (by omega) _ _ hI hS ls (lv_sub hl [0, 1, 3, 4, 5] rfl)
  · refine xb_v (E := xIOB) (exR_s x2_1) (vx_runV (As := [.int key]) (rest := []) ⟨hx, hb, hml, hown, hts⟩ (c_X3_requireKey l hst D cy h0 q A S key nk hnk hck) (cwV 1 hts gX3_hangsOnKey_X3_requireKey rfl rfl rfl (by decide +kernel) ⟨Nat.le_of_ble_eq_true rfl, Nat.le_of_ble_eq_true rfl⟩) (hI.preV (k0 := 0) rfl rfl) rfl rfl hl.1 rfl (lv_room (Nat.le_of_ble_eq_true rfl)) dX3_hangsOnKey_2 (rm_bad (ex' := exR key nk xIOB) (exR_s x2_1) ((by first | (simp only [exR, x2_1, ↓reduceIte, Bool.false_eq_true, reduceCtorEq]; done) | simp [exR, x2_1])))) hI hS (fun ce q9 H locs hI hS hce hcv hcl => ?_)
    exact r_out (by first | (simp only [exR, x2_1, ↓reduceIte, Bool.false_eq_true, reduceCtorEq]; done) | simp [exR, x2_1]) hS hout hlk hce hcv hcl

set_option maxHeartbeats 4000000 in
set_option maxRecDepth 100000 in
theorem c_X3_recall (l : Launch) (hst : l.stackTraces = false) (D : va_G) (cy : Nat → ClassId) (h0 : Nat) (q : Nat → Nat) (A : Nat → Nat → Int32) (S : Nat → Int32) (b : Int32) (nb : Nat) (hnb : nb ≤ 24) (hcb : S 5 = nI nb) : vx_Met l yX3_recall wsX3_recall (rmX (exRecall S b nb) 7 103) (va_Pc [.ref (q 0), .int b] (pI D cy h0 (wX cy q A S))) (xwI (exRecall S b nb) (bcF (rcF (A 7) (S 4 ||| ly b) nb &&& (rcF (A 7) (S 4) nb ^^^ (-1)))) D cy h0 (wX cy q A (uS S 4 (S 4 ||| ly b))) (qA 19 q)) (xx (exRecall S b nb)) (c1 (exRecall S b nb)) (c6 (exRecall S b nb)) (qA 19 q) := by
  refine vx_ofW (cc := cX3_recall) (maxL := 3) (ret := (some .int)) (by decide) rfl ?_
  intro p e s m args below meth c s₁ B hml hout hv
  obtain ⟨rfl, hI⟩ := hv
  have hx := B.exec
  have hb := B.bytes
  have hr := B.returns
  have hts := atoms_spec (ws := wsX3_recall) B.pre
  have hown : s.vm.findClass RX3 = some m.cls := findClass_of_methodNamed B.named
  have hlk := B.notSynchronized
  have hI : IH D cy h0 (wX cy q A S) s s.heap := hI
  have hG := hI.1
  have hqA := hA_X hI
  have hh0 : h0 ≤ s.heap.size := hI.1.2.2.2
  have hS : va_S nof s.heap s.heap [] := va_S.rf
  have hi0 : ∀ w ∈ wsX00, w ∈ wsX3_recall := by decide +kernel
  have hi3 : ∀ w ∈ wsX30, w ∈ wsX3_recall := by decide +kernel
  have hl := lv_entry ([.ref (q 0), .int b]) (n := 3) (Nat.le_of_ble_eq_true rfl)
  rw [lg_entry_eq]
  generalize (lg_sl ([.ref (q 0), .int b]) ++ List.replicate (3 - (lg_sl ([.ref (q 0), .int b])).length) Slot.unset).toArray = ls at hl ⊢
  have hl : lv_has ls 3 [(0, .ref (q 0)), (1, .int b)] := hl
  refine lv_aload_n hx hb dX3_recall_0 rfl (lv_at hl 0 rfl) ?_
  refine lv_iload_n hx hb dX3_recall_1 rfl (lv_at hl 1 rfl) ?_
  rcases Classical.em (inR b nb = true) with x2_1 | x2_1
  · refine xo_v (exR_n x2_1) (vx_runV (As := [.int b]) (rest := []) ⟨hx, hb, hml, hown, hts⟩ (c_X3_requireBuild l hst D cy h0 q A S b nb hnb hcb) (cwV 1 hts gX3_recall_X3_requireBuild rfl rfl rfl (by decide +kernel) ⟨Nat.le_of_ble_eq_true rfl, Nat.le_of_ble_eq_true rfl⟩) (hI.preV (k0 := 0) rfl rfl) rfl rfl hl.1 rfl (lv_room (Nat.le_of_ble_eq_true rfl)) dX3_recall_2 (rm_ok (exR_n x2_1) (Nat.zero_le _) (Nat.zero_le _))) hI hS (fun H locs hI hS => ?_)
    obtain ⟨hj_b, hk_b⟩ := inR_c (by omega) x2_1
    refine lv_aload_n hx hb dX3_recall_5 rfl (lv_at hl 0 rfl) ?_
    refine r_get (C := RX3) (T := TX3) (N := 7) (k := 1) (q0 := 0) (v := .ref (q 2)) hx hb hts hi3 hown hI rfl rfl (by decide) (hts (.fieldLink RX3 19 "Buildlots" "builds" "LBuildlots$Builds;") (List.mem_of_getElem? (i := 3) rfl)) rfl rfl dX3_recall_6 ?_
    refine r_getN (C := RX0) (T := TX0) (N := 10) (k := 8) (q0 := 2) (v := .int (S 4)) hx hb hts hi0 hown hI rfl rfl (by decide) (List.mem_of_getElem? (i := 7) rfl) rfl rfl dX3_recall_9 ?_
    refine lv_iload_n hx hb dX3_recall_12 rfl (lv_at hl 1 rfl) ?_
    refine ro_i (va_runS (As := [.int (S 4), .int b]) (rest := []) ⟨hx, hb, hml, hown, hts⟩ (c_X3_holds l (S 4) b) (va_cwS 2 hts gX3_recall_X3_holds rfl rfl rfl (by decide +kernel) ⟨Nat.le_of_ble_eq_true rfl, Nat.le_of_ble_eq_true rfl⟩) preT rfl rfl hl.1 rfl (lv_room (Nat.le_of_ble_eq_true rfl)) dX3_recall_13 ⟨Nat.le_of_ble_eq_true rfl, Nat.le_of_ble_eq_true rfl⟩) hI hS (fun H locs hI hS => ?_)
    refine r_ifeq_b (tgt := 29) hx hb dX3_recall_16 (by decide) (fun c16_2 => ?_) (fun c16_2 => ?_)
    · refine lv_aload_n hx hb dX3_recall_29 rfl (lv_at hl 0 rfl) ?_
      refine r_get (C := RX3) (T := TX3) (N := 7) (k := 1) (q0 := 0) (v := .ref (q 2)) hx hb hts hi3 hown hI rfl rfl (by decide) (hts (.fieldLink RX3 19 "Buildlots" "builds" "LBuildlots$Builds;") (List.mem_of_getElem? (i := 3) rfl)) rfl rfl dX3_recall_30 ?_
      refine ro_i (va_runVN (As := []) (rest := []) ⟨hx, hb, hml, hown, hts⟩ (c_X0_recalled l D cy h0 q A S nb hnb hcb) ⟨va_cnB (host := RX3) 0 hts gX3_recall_X0_recalled_n118 rfl rfl rfl (hG.1.2.1 (RX3, 118, yX0_recalled) (List.mem_of_getElem? (i := 12) rfl)) (hts (.initialized RX0) (List.mem_of_getElem? (i := 18) rfl)) (by decide +kernel) ⟨Nat.le_of_ble_eq_true rfl, Nat.le_of_ble_eq_true rfl⟩, (hts (.instanceMethod yX0_recalled) (List.mem_of_getElem? (i := 17) rfl)), (hts (.selects RX0 yX0_recalled yX0_recalled) (List.mem_of_getElem? (i := 19) rfl))⟩ (hI.preV (k0 := 2) rfl rfl) rfl rfl hl.1 rfl (lv_room (Nat.le_of_ble_eq_true rfl)) dX3_recall_33 ⟨Nat.le_of_ble_eq_true rfl, Nat.le_of_ble_eq_true rfl⟩) hI hS (fun H locs hI hS => ?_)
      refine lv_istore_n (lv' := [(2, .int (rcF (A 7) (S 4) nb)), (0, .ref (q 0)), (1, .int b)]) hx hb dX3_recall_36 rfl hl (by decide) rfl (fun ls hl => ?_)
      refine lv_aload_n hx hb dX3_recall_37 rfl (lv_at hl 1 rfl) ?_
      refine r_get (C := RX3) (T := TX3) (N := 7) (k := 1) (q0 := 0) (v := .ref (q 2)) hx hb hts hi3 hown hI rfl rfl (by decide) (hts (.fieldLink RX3 19 "Buildlots" "builds" "LBuildlots$Builds;") (List.mem_of_getElem? (i := 3) rfl)) rfl rfl dX3_recall_38 ?_
      refine lv_dup hx hb dX3_recall_41 rfl ?_
      refine r_getN (C := RX0) (T := TX0) (N := 10) (k := 8) (q0 := 2) (v := .int (S 4)) hx hb hts hi0 hown hI rfl rfl (by decide) (List.mem_of_getElem? (i := 7) rfl) rfl rfl dX3_recall_42 ?_
      refine lv_iload_n hx hb dX3_recall_45 rfl (lv_at hl 2 rfl) ?_
      refine ro_i (va_runS (As := [.int b]) (rest := [.int (S 4), .ref (q 2)]) ⟨hx, hb, hml, hown, hts⟩ (c_X3_only l b) (va_cwS 1 hts gX3_recall_X3_only rfl rfl rfl (by decide +kernel) ⟨Nat.le_of_ble_eq_true rfl, Nat.le_of_ble_eq_true rfl⟩) preT rfl rfl hl.1 rfl (lv_room (Nat.le_of_ble_eq_true rfl)) dX3_recall_46 ⟨Nat.le_of_ble_eq_true rfl, Nat.le_of_ble_eq_true rfl⟩) hI hS (fun H locs hI hS => ?_)
      refine lv_ior hx hb dX3_recall_49 ?_
      have hS := hS.mono (B := qA 19 q) (fun _ h => h.elim)
      refine r_putN (w' := wX cy q A (uS S 4 ((S 4) ||| (ly b)))) (C := RX0) (T := TX0) (N := 10) (k := 8) (q0 := 2) (ty := .int) (v := .int ((S 4) ||| (ly b))) hx hb hts hi0 tyX0_ok nmX0 hown hI hS hqA hh0 (qA_X hI) rfl rfl (by decide) (List.mem_of_getElem? (i := 7) rfl) rfl rfl (by decide +kernel) rfl rfl (Nat.le_of_ble_eq_true rfl) dX3_recall_50 rfl (fun H locs hI hS => ?_)
      refine lv_aload_n hx hb dX3_recall_53 rfl (lv_at hl 1 rfl) ?_
      refine r_get (C := RX3) (T := TX3) (N := 7) (k := 1) (q0 := 0) (v := .ref (q 2)) hx hb hts hi3 hown hI rfl rfl (by decide) (hts (.fieldLink RX3 19 "Buildlots" "builds" "LBuildlots$Builds;") (List.mem_of_getElem? (i := 3) rfl)) rfl rfl dX3_recall_54 ?_
      refine ro_i (va_runVN (As := []) (rest := []) ⟨hx, hb, hml, hown, hts⟩ (c_X0_recalled l D cy h0 q A (uS S 4 ((S 4) ||| (ly b))) nb hnb hcb) ⟨va_cnB (host := RX3) 0 hts gX3_recall_X0_recalled_n118 rfl rfl rfl (hG.1.2.1 (RX3, 118, yX0_recalled) (List.mem_of_getElem? (i := 12) rfl)) (hts (.initialized RX0) (List.mem_of_getElem? (i := 18) rfl)) (by decide +kernel) ⟨Nat.le_of_ble_eq_true rfl, Nat.le_of_ble_eq_true rfl⟩, (hts (.instanceMethod yX0_recalled) (List.mem_of_getElem? (i := 17) rfl)), (hts (.selects RX0 yX0_recalled yX0_recalled) (List.mem_of_getElem? (i := 19) rfl))⟩ (hI.preV (k0 := 2) rfl rfl) rfl rfl hl.1 rfl (lv_room (Nat.le_of_ble_eq_true rfl)) dX3_recall_57 ⟨Nat.le_of_ble_eq_true rfl, Nat.le_of_ble_eq_true rfl⟩) hI hS (fun H locs hI hS => ?_)
      refine lv_iload_n hx hb dX3_recall_60 rfl (lv_at hl 0 rfl) ?_
      refine lv_iconst (v := (-1)) hx hb dX3_recall_61 (by decide) ?_
      refine lv_ixor hx hb dX3_recall_62 ?_
      refine lv_iand hx hb dX3_recall_63 ?_
      refine ro_i (va_runS (As := [.int ((rcF (A 7) ((uS S 4 ((S 4) ||| (ly b))) 4) nb) &&& ((rcF (A 7) (S 4) nb) ^^^ (-1)))]) (rest := []) ⟨hx, hb, hml, hown, hts⟩ (c_J6_bitCount_0f7a4 l ((rcF (A 7) ((uS S 4 ((S 4) ||| (ly b))) 4) nb) &&& ((rcF (A 7) (S 4) nb) ^^^ (-1)))) (va_cwS 1 hts gX3_recall_J6_bitCount_0f7a4 rfl rfl rfl (by decide +kernel) ⟨Nat.le_of_ble_eq_true rfl, Nat.le_of_ble_eq_true rfl⟩) preT rfl rfl hl.1 rfl (lv_room (Nat.le_of_ble_eq_true rfl)) dX3_recall_64 ⟨Nat.le_of_ble_eq_true rfl, Nat.le_of_ble_eq_true rfl⟩) hI hS (fun H locs hI hS => ?_)
      rw [show wX cy q A (uS S 4 ((S 4) ||| (ly b))) = wX cy q A (uS S 4 (S 4 ||| ly b)) from rfl] at hI
      exact end_xwi hx hb hr (by first | (simp only [exRecall, x2_1, c16_2, ↓reduceIte, Bool.false_eq_true, reduceCtorEq]; done) | simp [exRecall, x2_1, c16_2]) rfl hI hS dX3_recall_67 hlk
    · exact r_throw (text := "the build is marked") hx hb hst hown (by decide) (by decide) tg_ISE tb_ISE (hts (.classLink RX3 58 "java/lang/IllegalStateException") (List.mem_of_getElem? (i := 1) rfl)) (hts (.initialized "java/lang/IllegalStateException") (List.mem_of_getElem? (i := 2) rfl)) (fun w h => hts w (List.mem_cons_of_mem _ (List.mem_append_left _ (List.mem_append_right _ h)))) (by decide) hG hS (by rw [hml]; exact hl.1) (by first | (simp only [exRecall, x2_1, c16_2, ↓reduceIte, Bool.false_eq_true, reduceCtorEq]; done) | simp [exRecall, x2_1, c16_2]) dX3_recall_19 dX3_recall_22 dX3_recall_23 dX3_recall_25 dX3_recall_28 hout (Nat.le_of_ble_eq_true rfl) (Nat.le_of_ble_eq_true rfl) (Nat.le_refl _) (Nat.le_refl _) hlk
  · refine xb_v (E := xIOB) (exR_s x2_1) (vx_runV (As := [.int b]) (rest := []) ⟨hx, hb, hml, hown, hts⟩ (c_X3_requireBuild l hst D cy h0 q A S b nb hnb hcb) (cwV 1 hts gX3_recall_X3_requireBuild rfl rfl rfl (by decide +kernel) ⟨Nat.le_of_ble_eq_true rfl, Nat.le_of_ble_eq_true rfl⟩) (hI.preV (k0 := 0) rfl rfl) rfl rfl hl.1 rfl (lv_room (Nat.le_of_ble_eq_true rfl)) dX3_recall_2 (rm_bad (ex' := exRecall S b nb) (exR_s x2_1) ((by first | (simp only [exRecall, x2_1, ↓reduceIte, Bool.false_eq_true, reduceCtorEq]; done) | simp [exRecall, x2_1])))) hI hS (fun ce q9 H locs hI hS hce hcv hcl => ?_)
    exact r_out (by first | (simp only [exRecall, x2_1, ↓reduceIte, Bool.false_eq_true, reduceCtorEq]; done) | simp [exRecall, x2_1]) hS hout hlk hce hcv hcl

set_option maxHeartbeats 4000000 in
set_option maxRecDepth 100000 in
theorem c_X3_lift (l : Launch) (hst : l.stackTraces = false) (D : va_G) (cy : Nat → ClassId) (h0 : Nat) (q : Nat → Nat) (A : Nat → Nat → Int32) (S : Nat → Int32) (b : Int32) (nb : Nat) (hnb : nb ≤ 24) (hcb : S 5 = nI nb) : vx_Met l yX3_lift wsX3_lift (rmX (exLift S b nb) 7 103) (va_Pc [.ref (q 0), .int b] (pI D cy h0 (wX cy q A S))) (xwI (exLift S b nb) (bcF (rcF (A 7) (S 4) nb &&& (rcF (A 7) (S 4 &&& (ly b ^^^ (-1))) nb ^^^ (-1)))) D cy h0 (wX cy q A (uS S 4 (S 4 &&& (ly b ^^^ (-1))))) (qA 19 q)) (xx (exLift S b nb)) (c1 (exLift S b nb)) (c6 (exLift S b nb)) (qA 19 q) := by
  refine vx_ofW (cc := cX3_lift) (maxL := 3) (ret := (some .int)) (by decide) rfl ?_
  intro p e s m args below meth c s₁ B hml hout hv
  obtain ⟨rfl, hI⟩ := hv
  have hx := B.exec
  have hb := B.bytes
  have hr := B.returns
  have hts := atoms_spec (ws := wsX3_lift) B.pre
  have hown : s.vm.findClass RX3 = some m.cls := findClass_of_methodNamed B.named
  have hlk := B.notSynchronized
  have hI : IH D cy h0 (wX cy q A S) s s.heap := hI
  have hG := hI.1
  have hqA := hA_X hI
  have hh0 : h0 ≤ s.heap.size := hI.1.2.2.2
  have hS : va_S nof s.heap s.heap [] := va_S.rf
  have hi0 : ∀ w ∈ wsX00, w ∈ wsX3_lift := by decide +kernel
  have hi3 : ∀ w ∈ wsX30, w ∈ wsX3_lift := by decide +kernel
  have hl := lv_entry ([.ref (q 0), .int b]) (n := 3) (Nat.le_of_ble_eq_true rfl)
  rw [lg_entry_eq]
  generalize (lg_sl ([.ref (q 0), .int b]) ++ List.replicate (3 - (lg_sl ([.ref (q 0), .int b])).length) Slot.unset).toArray = ls at hl ⊢
  have hl : lv_has ls 3 [(0, .ref (q 0)), (1, .int b)] := hl
  refine lv_aload_n hx hb dX3_lift_0 rfl (lv_at hl 0 rfl) ?_
  refine lv_iload_n hx hb dX3_lift_1 rfl (lv_at hl 1 rfl) ?_
  rcases Classical.em (inR b nb = true) with x2_1 | x2_1
  · refine xo_v (exR_n x2_1) (vx_runV (As := [.int b]) (rest := []) ⟨hx, hb, hml, hown, hts⟩ (c_X3_requireBuild l hst D cy h0 q A S b nb hnb hcb) (cwV 1 hts gX3_lift_X3_requireBuild rfl rfl rfl (by decide +kernel) ⟨Nat.le_of_ble_eq_true rfl, Nat.le_of_ble_eq_true rfl⟩) (hI.preV (k0 := 0) rfl rfl) rfl rfl hl.1 rfl (lv_room (Nat.le_of_ble_eq_true rfl)) dX3_lift_2 (rm_ok (exR_n x2_1) (Nat.zero_le _) (Nat.zero_le _))) hI hS (fun H locs hI hS => ?_)
    obtain ⟨hj_b, hk_b⟩ := inR_c (by omega) x2_1
    refine lv_aload_n hx hb dX3_lift_5 rfl (lv_at hl 0 rfl) ?_
    refine r_get (C := RX3) (T := TX3) (N := 7) (k := 1) (q0 := 0) (v := .ref (q 2)) hx hb hts hi3 hown hI rfl rfl (by decide) (hts (.fieldLink RX3 19 "Buildlots" "builds" "LBuildlots$Builds;") (List.mem_of_getElem? (i := 3) rfl)) rfl rfl dX3_lift_6 ?_
    refine r_getN (C := RX0) (T := TX0) (N := 10) (k := 8) (q0 := 2) (v := .int (S 4)) hx hb hts hi0 hown hI rfl rfl (by decide) (List.mem_of_getElem? (i := 7) rfl) rfl rfl dX3_lift_9 ?_
    refine lv_iload_n hx hb dX3_lift_12 rfl (lv_at hl 1 rfl) ?_
    refine ro_i (va_runS (As := [.int (S 4), .int b]) (rest := []) ⟨hx, hb, hml, hown, hts⟩ (c_X3_holds l (S 4) b) (va_cwS 2 hts gX3_lift_X3_holds rfl rfl rfl (by decide +kernel) ⟨Nat.le_of_ble_eq_true rfl, Nat.le_of_ble_eq_true rfl⟩) preT rfl rfl hl.1 rfl (lv_room (Nat.le_of_ble_eq_true rfl)) dX3_lift_13 ⟨Nat.le_of_ble_eq_true rfl, Nat.le_of_ble_eq_true rfl⟩) hI hS (fun H locs hI hS => ?_)
    refine r_ifne_b (tgt := 29) hx hb dX3_lift_16 (by decide) (fun c16_2 => ?_) (fun c16_2 => ?_)
    · refine lv_aload_n hx hb dX3_lift_29 rfl (lv_at hl 0 rfl) ?_
      refine r_get (C := RX3) (T := TX3) (N := 7) (k := 1) (q0 := 0) (v := .ref (q 2)) hx hb hts hi3 hown hI rfl rfl (by decide) (hts (.fieldLink RX3 19 "Buildlots" "builds" "LBuildlots$Builds;") (List.mem_of_getElem? (i := 3) rfl)) rfl rfl dX3_lift_30 ?_
      refine ro_i (va_runVN (As := []) (rest := []) ⟨hx, hb, hml, hown, hts⟩ (c_X0_recalled l D cy h0 q A S nb hnb hcb) ⟨va_cnB (host := RX3) 0 hts gX3_lift_X0_recalled_n118 rfl rfl rfl (hG.1.2.1 (RX3, 118, yX0_recalled) (List.mem_of_getElem? (i := 12) rfl)) (hts (.initialized RX0) (List.mem_of_getElem? (i := 18) rfl)) (by decide +kernel) ⟨Nat.le_of_ble_eq_true rfl, Nat.le_of_ble_eq_true rfl⟩, (hts (.instanceMethod yX0_recalled) (List.mem_of_getElem? (i := 17) rfl)), (hts (.selects RX0 yX0_recalled yX0_recalled) (List.mem_of_getElem? (i := 19) rfl))⟩ (hI.preV (k0 := 2) rfl rfl) rfl rfl hl.1 rfl (lv_room (Nat.le_of_ble_eq_true rfl)) dX3_lift_33 ⟨Nat.le_of_ble_eq_true rfl, Nat.le_of_ble_eq_true rfl⟩) hI hS (fun H locs hI hS => ?_)
      refine lv_istore_n (lv' := [(2, .int (rcF (A 7) (S 4) nb)), (0, .ref (q 0)), (1, .int b)]) hx hb dX3_lift_36 rfl hl (by decide) rfl (fun ls hl => ?_)
      refine lv_aload_n hx hb dX3_lift_37 rfl (lv_at hl 1 rfl) ?_
      refine r_get (C := RX3) (T := TX3) (N := 7) (k := 1) (q0 := 0) (v := .ref (q 2)) hx hb hts hi3 hown hI rfl rfl (by decide) (hts (.fieldLink RX3 19 "Buildlots" "builds" "LBuildlots$Builds;") (List.mem_of_getElem? (i := 3) rfl)) rfl rfl dX3_lift_38 ?_
      refine lv_dup hx hb dX3_lift_41 rfl ?_
      refine r_getN (C := RX0) (T := TX0) (N := 10) (k := 8) (q0 := 2) (v := .int (S 4)) hx hb hts hi0 hown hI rfl rfl (by decide) (List.mem_of_getElem? (i := 7) rfl) rfl rfl dX3_lift_42 ?_
      refine lv_iload_n hx hb dX3_lift_45 rfl (lv_at hl 2 rfl) ?_
      refine ro_i (va_runS (As := [.int b]) (rest := [.int (S 4), .ref (q 2)]) ⟨hx, hb, hml, hown, hts⟩ (c_X3_only l b) (va_cwS 1 hts gX3_lift_X3_only rfl rfl rfl (by decide +kernel) ⟨Nat.le_of_ble_eq_true rfl, Nat.le_of_ble_eq_true rfl⟩) preT rfl rfl hl.1 rfl (lv_room (Nat.le_of_ble_eq_true rfl)) dX3_lift_46 ⟨Nat.le_of_ble_eq_true rfl, Nat.le_of_ble_eq_true rfl⟩) hI hS (fun H locs hI hS => ?_)
      refine lv_iconst (v := (-1)) hx hb dX3_lift_49 (by decide) ?_
      refine lv_ixor hx hb dX3_lift_50 ?_
      refine lv_iand hx hb dX3_lift_51 ?_
      have hS := hS.mono (B := qA 19 q) (fun _ h => h.elim)
      refine r_putN (w' := wX cy q A (uS S 4 ((S 4) &&& ((ly b) ^^^ (-1))))) (C := RX0) (T := TX0) (N := 10) (k := 8) (q0 := 2) (ty := .int) (v := .int ((S 4) &&& ((ly b) ^^^ (-1)))) hx hb hts hi0 tyX0_ok nmX0 hown hI hS hqA hh0 (qA_X hI) rfl rfl (by decide) (List.mem_of_getElem? (i := 7) rfl) rfl rfl (by decide +kernel) rfl rfl (Nat.le_of_ble_eq_true rfl) dX3_lift_52 rfl (fun H locs hI hS => ?_)
      refine lv_iload_n hx hb dX3_lift_55 rfl (lv_at hl 0 rfl) ?_
      refine lv_aload_n hx hb dX3_lift_56 rfl (lv_at hl 1 rfl) ?_
      refine r_get (C := RX3) (T := TX3) (N := 7) (k := 1) (q0 := 0) (v := .ref (q 2)) hx hb hts hi3 hown hI rfl rfl (by decide) (hts (.fieldLink RX3 19 "Buildlots" "builds" "LBuildlots$Builds;") (List.mem_of_getElem? (i := 3) rfl)) rfl rfl dX3_lift_57 ?_
      refine ro_i (va_runVN (As := []) (rest := [.int (rcF (A 7) (S 4) nb)]) ⟨hx, hb, hml, hown, hts⟩ (c_X0_recalled l D cy h0 q A (uS S 4 ((S 4) &&& ((ly b) ^^^ (-1)))) nb hnb hcb) ⟨va_cnB (host := RX3) 0 hts gX3_lift_X0_recalled_n118 rfl rfl rfl (hG.1.2.1 (RX3, 118, yX0_recalled) (List.mem_of_getElem? (i := 12) rfl)) (hts (.initialized RX0) (List.mem_of_getElem? (i := 18) rfl)) (by decide +kernel) ⟨Nat.le_of_ble_eq_true rfl, Nat.le_of_ble_eq_true rfl⟩, (hts (.instanceMethod yX0_recalled) (List.mem_of_getElem? (i := 17) rfl)), (hts (.selects RX0 yX0_recalled yX0_recalled) (List.mem_of_getElem? (i := 19) rfl))⟩ (hI.preV (k0 := 2) rfl rfl) rfl rfl hl.1 rfl (lv_room (Nat.le_of_ble_eq_true rfl)) dX3_lift_60 ⟨Nat.le_of_ble_eq_true rfl, Nat.le_of_ble_eq_true rfl⟩) hI hS (fun H locs hI hS => ?_)
      refine lv_iconst (v := (-1)) hx hb dX3_lift_63 (by decide) ?_
      refine lv_ixor hx hb dX3_lift_64 ?_
      refine lv_iand hx hb dX3_lift_65 ?_
      refine ro_i (va_runS (As := [.int ((rcF (A 7) (S 4) nb) &&& ((rcF (A 7) ((uS S 4 ((S 4) &&& ((ly b) ^^^ (-1)))) 4) nb) ^^^ (-1)))]) (rest := []) ⟨hx, hb, hml, hown, hts⟩ (c_J6_bitCount_0f7a4 l ((rcF (A 7) (S 4) nb) &&& ((rcF (A 7) ((uS S 4 ((S 4) &&& ((ly b) ^^^ (-1)))) 4) nb) ^^^ (-1)))) (va_cwS 1 hts gX3_lift_J6_bitCount_0f7a4 rfl rfl rfl (by decide +kernel) ⟨Nat.le_of_ble_eq_true rfl, Nat.le_of_ble_eq_true rfl⟩) preT rfl rfl hl.1 rfl (lv_room (Nat.le_of_ble_eq_true rfl)) dX3_lift_66 ⟨Nat.le_of_ble_eq_true rfl, Nat.le_of_ble_eq_true rfl⟩) hI hS (fun H locs hI hS => ?_)
      rw [show wX cy q A (uS S 4 ((S 4) &&& ((ly b) ^^^ (-1)))) = wX cy q A (uS S 4 (S 4 &&& (ly b ^^^ (-1)))) from rfl] at hI
      exact end_xwi hx hb hr (by first | (simp only [exLift, x2_1, c16_2, ↓reduceIte, Bool.false_eq_true, reduceCtorEq]; done) | simp [exLift, x2_1, c16_2]) rfl hI hS dX3_lift_69 hlk
    · exact r_throw (text := "the build is not marked") hx hb hst hown (by decide) (by decide) tg_ISE tb_ISE (hts (.classLink RX3 58 "java/lang/IllegalStateException") (List.mem_of_getElem? (i := 1) rfl)) (hts (.initialized "java/lang/IllegalStateException") (List.mem_of_getElem? (i := 2) rfl)) (fun w h => hts w (List.mem_cons_of_mem _ (List.mem_append_left _ (List.mem_append_right _ h)))) (by decide) hG hS (by rw [hml]; exact hl.1) (by first | (simp only [exLift, x2_1, c16_2, ↓reduceIte, Bool.false_eq_true, reduceCtorEq]; done) | simp [exLift, x2_1, c16_2]) dX3_lift_19 dX3_lift_22 dX3_lift_23 dX3_lift_25 dX3_lift_28 hout (Nat.le_of_ble_eq_true rfl) (Nat.le_of_ble_eq_true rfl) (Nat.le_refl _) (Nat.le_refl _) hlk
  · refine xb_v (E := xIOB) (exR_s x2_1) (vx_runV (As := [.int b]) (rest := []) ⟨hx, hb, hml, hown, hts⟩ (c_X3_requireBuild l hst D cy h0 q A S b nb hnb hcb) (cwV 1 hts gX3_lift_X3_requireBuild rfl rfl rfl (by decide +kernel) ⟨Nat.le_of_ble_eq_true rfl, Nat.le_of_ble_eq_true rfl⟩) (hI.preV (k0 := 0) rfl rfl) rfl rfl hl.1 rfl (lv_room (Nat.le_of_ble_eq_true rfl)) dX3_lift_2 (rm_bad (ex' := exLift S b nb) (exR_s x2_1) ((by first | (simp only [exLift, x2_1, ↓reduceIte, Bool.false_eq_true, reduceCtorEq]; done) | simp [exLift, x2_1])))) hI hS (fun ce q9 H locs hI hS hce hcv hcl => ?_)
    exact r_out (by first | (simp only [exLift, x2_1, ↓reduceIte, Bool.false_eq_true, reduceCtorEq]; done) | simp [exLift, x2_1]) hS hout hlk hce hcv hcl

set_option maxHeartbeats 4000000 in
set_option maxRecDepth 100000 in
theorem c_X3_isRecalled (l : Launch) (hst : l.stackTraces = false) (D : va_G) (cy : Nat → ClassId) (h0 : Nat) (q : Nat → Nat) (A : Nat → Nat → Int32) (S : Nat → Int32) (b : Int32) (nb : Nat) (hnb : nb ≤ 24) (hcb : S 5 = nI nb) : vx_Met l yX3_isRecalled wsX3_isRecalled (rmX (exR b nb xIOB) 7 103) (va_Pc [.ref (q 0), .int b] (pI D cy h0 (wX cy q A S))) (xoI (exR b nb xIOB) (bI (hold (rcF (A 7) (S 4) nb) b))) (xx (exR b nb xIOB)) (c1 (exR b nb xIOB)) (c6 (exR b nb xIOB)) nof := by
  refine vx_ofW (cc := cX3_isRecalled) (maxL := 2) (ret := (some .boolean)) (by decide) rfl ?_
  intro p e s m args below meth c s₁ B hml hout hv
  obtain ⟨rfl, hI⟩ := hv
  have hx := B.exec
  have hb := B.bytes
  have hr := B.returns
  have hts := atoms_spec (ws := wsX3_isRecalled) B.pre
  have hown : s.vm.findClass RX3 = some m.cls := findClass_of_methodNamed B.named
  have hlk := B.notSynchronized
  have hI : IH D cy h0 (wX cy q A S) s s.heap := hI
  have hG := hI.1
  have hS : va_S nof s.heap s.heap [] := va_S.rf
  have hi0 : ∀ w ∈ wsX00, w ∈ wsX3_isRecalled := by decide +kernel
  have hi3 : ∀ w ∈ wsX30, w ∈ wsX3_isRecalled := by decide +kernel
  have hl := lv_entry ([.ref (q 0), .int b]) (n := 2) (Nat.le_of_ble_eq_true rfl)
  rw [lg_entry_eq]
  generalize (lg_sl ([.ref (q 0), .int b]) ++ List.replicate (2 - (lg_sl ([.ref (q 0), .int b])).length) Slot.unset).toArray = ls at hl ⊢
  have hl : lv_has ls 2 [(0, .ref (q 0)), (1, .int b)] := hl
  refine lv_aload_n hx hb dX3_isRecalled_0 rfl (lv_at hl 0 rfl) ?_
  refine lv_iload_n hx hb dX3_isRecalled_1 rfl (lv_at hl 1 rfl) ?_
  rcases Classical.em (inR b nb = true) with x2_1 | x2_1
  · refine xo_v (exR_n x2_1) (vx_runV (As := [.int b]) (rest := []) ⟨hx, hb, hml, hown, hts⟩ (c_X3_requireBuild l hst D cy h0 q A S b nb hnb hcb) (cwV 1 hts gX3_isRecalled_X3_requireBuild rfl rfl rfl (by decide +kernel) ⟨Nat.le_of_ble_eq_true rfl, Nat.le_of_ble_eq_true rfl⟩) (hI.preV (k0 := 0) rfl rfl) rfl rfl hl.1 rfl (lv_room (Nat.le_of_ble_eq_true rfl)) dX3_isRecalled_2 (rm_ok (exR_n x2_1) (Nat.zero_le _) (Nat.zero_le _))) hI hS (fun H locs hI hS => ?_)
    obtain ⟨hj_b, hk_b⟩ := inR_c (by omega) x2_1
    refine lv_aload_n hx hb dX3_isRecalled_5 rfl (lv_at hl 0 rfl) ?_
    refine r_get (C := RX3) (T := TX3) (N := 7) (k := 1) (q0 := 0) (v := .ref (q 2)) hx hb hts hi3 hown hI rfl rfl (by decide) (hts (.fieldLink RX3 19 "Buildlots" "builds" "LBuildlots$Builds;") (List.mem_of_getElem? (i := 1) rfl)) rfl rfl dX3_isRecalled_6 ?_
    refine ro_i (va_runVN (As := []) (rest := []) ⟨hx, hb, hml, hown, hts⟩ (c_X0_recalled l D cy h0 q A S nb hnb hcb) ⟨va_cnB (host := RX3) 0 hts gX3_isRecalled_X0_recalled_n118 rfl rfl rfl (hG.1.2.1 (RX3, 118, yX0_recalled) (List.mem_of_getElem? (i := 12) rfl)) (hts (.initialized RX0) (List.mem_of_getElem? (i := 10) rfl)) (by decide +kernel) ⟨Nat.le_of_ble_eq_true rfl, Nat.le_of_ble_eq_true rfl⟩, (hts (.instanceMethod yX0_recalled) (List.mem_of_getElem? (i := 9) rfl)), (hts (.selects RX0 yX0_recalled yX0_recalled) (List.mem_of_getElem? (i := 11) rfl))⟩ (hI.preV (k0 := 2) rfl rfl) rfl rfl hl.1 rfl (lv_room (Nat.le_of_ble_eq_true rfl)) dX3_isRecalled_9 ⟨Nat.le_of_ble_eq_true rfl, Nat.le_of_ble_eq_true rfl⟩) hI hS (fun H locs hI hS => ?_)
    refine lv_iload_n hx hb dX3_isRecalled_12 rfl (lv_at hl 1 rfl) ?_
    refine ro_i (va_runS (As := [.int (rcF (A 7) (S 4) nb), .int b]) (rest := []) ⟨hx, hb, hml, hown, hts⟩ (c_X3_holds l (rcF (A 7) (S 4) nb) b) (va_cwS 2 hts gX3_isRecalled_X3_holds rfl rfl rfl (by decide +kernel) ⟨Nat.le_of_ble_eq_true rfl, Nat.le_of_ble_eq_true rfl⟩) preT rfl rfl hl.1 rfl (lv_room (Nat.le_of_ble_eq_true rfl)) dX3_isRecalled_13 ⟨Nat.le_of_ble_eq_true rfl, Nat.le_of_ble_eq_true rfl⟩) hI hS (fun H locs hI hS => ?_)
    exact end_xoz hx hb hr (nz_bI _) (by first | (simp only [exR, x2_1, ↓reduceIte, Bool.false_eq_true, reduceCtorEq]; done) | simp [exR, x2_1]) rfl hS dX3_isRecalled_16 hlk
  · refine xb_v (E := xIOB) (exR_s x2_1) (vx_runV (As := [.int b]) (rest := []) ⟨hx, hb, hml, hown, hts⟩ (c_X3_requireBuild l hst D cy h0 q A S b nb hnb hcb) (cwV 1 hts gX3_isRecalled_X3_requireBuild rfl rfl rfl (by decide +kernel) ⟨Nat.le_of_ble_eq_true rfl, Nat.le_of_ble_eq_true rfl⟩) (hI.preV (k0 := 0) rfl rfl) rfl rfl hl.1 rfl (lv_room (Nat.le_of_ble_eq_true rfl)) dX3_isRecalled_2 (rm_bad (ex' := exR b nb xIOB) (exR_s x2_1) ((by first | (simp only [exR, x2_1, ↓reduceIte, Bool.false_eq_true, reduceCtorEq]; done) | simp [exR, x2_1])))) hI hS (fun ce q9 H locs hI hS hce hcv hcl => ?_)
    exact r_out (by first | (simp only [exR, x2_1, ↓reduceIte, Bool.false_eq_true, reduceCtorEq]; done) | simp [exR, x2_1]) hS hout hlk hce hcv hcl

set_option maxHeartbeats 4000000 in
set_option maxRecDepth 100000 in
theorem c_X3_rebuild (l : Launch) (hst : l.stackTraces = false) (D : va_G) (cy : Nat → ClassId) (h0 : Nat) (q : Nat → Nat) (A : Nat → Nat → Int32) (S : Nat → Int32) (b : Int32) (r : Int32) (nb : Nat) (hnb : nb ≤ 24) (hcb : S 5 = nI nb) : vx_Met l yX3_rebuild wsX3_rebuild (rmX (exRebuild A b nb) 7 103) (va_Pc [.ref (q 0), .int b, .int r] (pI D cy h0 (wX cy q A S))) (xwI (exRebuild A b nb) (bI (decide (r = A 8 (ix b)))) D cy h0 (wX cy q (rbA A b r) S) (qA 19 q)) (xx (exRebuild A b nb)) (c1 (exRebuild A b nb)) (c6 (exRebuild A b nb)) (qA 19 q) := by
  refine vx_ofW (cc := cX3_rebuild) (maxL := 4) (ret := (some .boolean)) (by decide) rfl ?_
  intro p e s m args below meth c s₁ B hml hout hv
  obtain ⟨rfl, hI⟩ := hv
  have hx := B.exec
  have hb := B.bytes
  have hr := B.returns
  have hts := atoms_spec (ws := wsX3_rebuild) B.pre
  have hown : s.vm.findClass RX3 = some m.cls := findClass_of_methodNamed B.named
  have hlk := B.notSynchronized
  have hI : IH D cy h0 (wX cy q A S) s s.heap := hI
  have hG := hI.1
  have hqA := hA_X hI
  have hh0 : h0 ≤ s.heap.size := hI.1.2.2.2
  have hS : va_S nof s.heap s.heap [] := va_S.rf
  have hi0 : ∀ w ∈ wsX00, w ∈ wsX3_rebuild := by decide +kernel
  have hi3 : ∀ w ∈ wsX30, w ∈ wsX3_rebuild := by decide +kernel
  have hl := lv_entry ([.ref (q 0), .int b, .int r]) (n := 4) (Nat.le_of_ble_eq_true rfl)
  rw [lg_entry_eq]
  generalize (lg_sl ([.ref (q 0), .int b, .int r]) ++ List.replicate (4 - (lg_sl ([.ref (q 0), .int b, .int r])).length) Slot.unset).toArray = ls at hl ⊢
  have hl : lv_has ls 4 [(0, .ref (q 0)), (1, .int b), (2, .int r)] := hl
  refine lv_aload_n hx hb dX3_rebuild_0 rfl (lv_at hl 0 rfl) ?_
  refine lv_iload_n hx hb dX3_rebuild_1 rfl (lv_at hl 1 rfl) ?_
  rcases Classical.em (inR b nb = true) with x2_1 | x2_1
  · refine xo_v (exR_n x2_1) (vx_runV (As := [.int b]) (rest := []) ⟨hx, hb, hml, hown, hts⟩ (c_X3_requireBuild l hst D cy h0 q A S b nb hnb hcb) (cwV 1 hts gX3_rebuild_X3_requireBuild rfl rfl rfl (by decide +kernel) ⟨Nat.le_of_ble_eq_true rfl, Nat.le_of_ble_eq_true rfl⟩) (hI.preV (k0 := 0) rfl rfl) rfl rfl hl.1 rfl (lv_room (Nat.le_of_ble_eq_true rfl)) dX3_rebuild_2 (rm_ok (exR_n x2_1) (Nat.zero_le _) (Nat.zero_le _))) hI hS (fun H locs hI hS => ?_)
    obtain ⟨hj_b, hk_b⟩ := inR_c (by omega) x2_1
    refine lv_aload_n hx hb dX3_rebuild_5 rfl (lv_at hl 0 rfl) ?_
    refine r_get (C := RX3) (T := TX3) (N := 7) (k := 1) (q0 := 0) (v := .ref (q 2)) hx hb hts hi3 hown hI rfl rfl (by decide) (hts (.fieldLink RX3 19 "Buildlots" "builds" "LBuildlots$Builds;") (List.mem_of_getElem? (i := 3) rfl)) rfl rfl dX3_rebuild_6 ?_
    refine r_getN (C := RX0) (T := TX0) (N := 10) (k := 6) (q0 := 2) (v := .ref (q 15)) hx hb hts hi0 hown hI rfl rfl (by decide) (List.mem_of_getElem? (i := 8) rfl) rfl rfl dX3_rebuild_9 ?_
    refine lv_iload_n hx hb dX3_rebuild_12 rfl (lv_at hl 1 rfl) ?_
    refine r_iald (q0 := 15) (j := (ix b)) (n := 24) (f := (A 11)) hx hb hI rfl hk_b (by omega) (by decide) dX3_rebuild_13 ?_
    refine lv_bipush (v := 99) hx hb dX3_rebuild_14 (by decide) ?_
    refine lv_icmp_lt (tgt := 29) hx hb dX3_rebuild_16 (by decide) (fun c16_2 => ?_) (fun c16_2 => ?_)
    · refine lv_iload_n hx hb dX3_rebuild_29 rfl (lv_at hl 2 rfl) ?_
      refine lv_aload_n hx hb dX3_rebuild_30 rfl (lv_at hl 0 rfl) ?_
      refine r_get (C := RX3) (T := TX3) (N := 7) (k := 1) (q0 := 0) (v := .ref (q 2)) hx hb hts hi3 hown hI rfl rfl (by decide) (hts (.fieldLink RX3 19 "Buildlots" "builds" "LBuildlots$Builds;") (List.mem_of_getElem? (i := 3) rfl)) rfl rfl dX3_rebuild_31 ?_
      refine r_getN (C := RX0) (T := TX0) (N := 10) (k := 3) (q0 := 2) (v := .ref (q 12)) hx hb hts hi0 hown hI rfl rfl (by decide) (List.mem_of_getElem? (i := 9) rfl) rfl rfl dX3_rebuild_34 ?_
      refine lv_iload_n hx hb dX3_rebuild_37 rfl (lv_at hl 1 rfl) ?_
      refine r_iald (q0 := 12) (j := (ix b)) (n := 24) (f := (A 8)) hx hb hI rfl hk_b (by omega) (by decide) dX3_rebuild_38 ?_
      refine lv_icmp_ne (tgt := 46) hx hb dX3_rebuild_39 (by decide) (fun c39_3 => ?_) (fun c39_3 => ?_)
      · refine lv_iconst (v := 0) hx hb dX3_rebuild_46 (by decide) ?_
        refine lv_istore_n (lv' := [(3, .int 0), (0, .ref (q 0)), (1, .int b), (2, .int r)]) hx hb dX3_rebuild_47 rfl hl (by decide) rfl (fun ls hl => ?_)
        refine lv_aload_n hx hb dX3_rebuild_48 rfl (lv_at hl 1 rfl) ?_
        refine r_get (C := RX3) (T := TX3) (N := 7) (k := 1) (q0 := 0) (v := .ref (q 2)) hx hb hts hi3 hown hI rfl rfl (by decide) (hts (.fieldLink RX3 19 "Buildlots" "builds" "LBuildlots$Builds;") (List.mem_of_getElem? (i := 3) rfl)) rfl rfl dX3_rebuild_49 ?_
        refine r_getN (C := RX0) (T := TX0) (N := 10) (k := 6) (q0 := 2) (v := .ref (q 15)) hx hb hts hi0 hown hI rfl rfl (by decide) (List.mem_of_getElem? (i := 8) rfl) rfl rfl dX3_rebuild_52 ?_
        refine lv_iload_n hx hb dX3_rebuild_55 rfl (lv_at hl 2 rfl) ?_
        refine lv_dup2_11 hx hb dX3_rebuild_56 rfl rfl ?_
        refine r_iald (q0 := 15) (j := (ix b)) (n := 24) (f := (A 11)) hx hb hI rfl hk_b (by omega) (by decide) dX3_rebuild_57 ?_
        refine lv_iconst (v := 1) hx hb dX3_rebuild_58 (by decide) ?_
        refine lv_iadd hx hb dX3_rebuild_59 ?_
        have hS := hS.mono (B := qA 19 q) (fun _ h => h.elim)
        refine r_iast (w' := wX cy q (uA A 11 (upd (A 11) (ix b) ((A 11 (ix b)) + 1))) S) (q0 := 15) (j := (ix b)) (n := 24) (f := (A 11)) hx hb hI hS hqA hh0 (qA_X hI) rfl hk_b (by omega) (by decide) dX3_rebuild_60 rfl (fun H locs hI hS => ?_)
        refine lv_iload_n hx hb dX3_rebuild_61 rfl (lv_at hl 0 rfl) ?_
        refine lv_if_eq (tgt := 78) hx hb dX3_rebuild_62 (by decide) (fun c62_4 => ?_) (fun c62_4 => ?_)
        rotate_left
        · exact absurd c62_4 (by decide)
        refine lv_iload_n hx hb dX3_rebuild_78 rfl (lv_at hl 0 rfl) ?_
        rw [show wX cy q (uA A 11 (upd (A 11) (ix b) ((A 11 (ix b)) + 1))) S = wX cy q (rbA A b r) S from (by simp [rbA, x2_1, c16_2, c39_3, ])] at hI
        exact end_xwz hx hb hr rfl (by first | (simp only [exRebuild, x2_1, c16_2, c39_3, ↓reduceIte, Bool.false_eq_true, reduceCtorEq]; done) | simp [exRebuild, x2_1, c16_2, c39_3]) (by simp [bI, x2_1, c16_2, c39_3, ]) hI hS dX3_rebuild_79 hlk
      · refine lv_iconst (v := 1) hx hb dX3_rebuild_42 (by decide) ?_
        refine lv_goto (tgt := 47) hx hb dX3_rebuild_43 (by decide) ?_
        refine lv_istore_n (lv' := [(3, .int 1), (0, .ref (q 0)), (1, .int b), (2, .int r)]) hx hb dX3_rebuild_47 rfl hl (by decide) rfl (fun ls hl => ?_)
        refine lv_aload_n hx hb dX3_rebuild_48 rfl (lv_at hl 1 rfl) ?_
        refine r_get (C := RX3) (T := TX3) (N := 7) (k := 1) (q0 := 0) (v := .ref (q 2)) hx hb hts hi3 hown hI rfl rfl (by decide) (hts (.fieldLink RX3 19 "Buildlots" "builds" "LBuildlots$Builds;") (List.mem_of_getElem? (i := 3) rfl)) rfl rfl dX3_rebuild_49 ?_
        refine r_getN (C := RX0) (T := TX0) (N := 10) (k := 6) (q0 := 2) (v := .ref (q 15)) hx hb hts hi0 hown hI rfl rfl (by decide) (List.mem_of_getElem? (i := 8) rfl) rfl rfl dX3_rebuild_52 ?_
        refine lv_iload_n hx hb dX3_rebuild_55 rfl (lv_at hl 2 rfl) ?_
        refine lv_dup2_11 hx hb dX3_rebuild_56 rfl rfl ?_
        refine r_iald (q0 := 15) (j := (ix b)) (n := 24) (f := (A 11)) hx hb hI rfl hk_b (by omega) (by decide) dX3_rebuild_57 ?_
        refine lv_iconst (v := 1) hx hb dX3_rebuild_58 (by decide) ?_
        refine lv_iadd hx hb dX3_rebuild_59 ?_
        have hS := hS.mono (B := qA 19 q) (fun _ h => h.elim)
        refine r_iast (w' := wX cy q (uA A 11 (upd (A 11) (ix b) ((A 11 (ix b)) + 1))) S) (q0 := 15) (j := (ix b)) (n := 24) (f := (A 11)) hx hb hI hS hqA hh0 (qA_X hI) rfl hk_b (by omega) (by decide) dX3_rebuild_60 rfl (fun H locs hI hS => ?_)
        refine lv_iload_n hx hb dX3_rebuild_61 rfl (lv_at hl 0 rfl) ?_
        refine lv_if_eq (tgt := 78) hx hb dX3_rebuild_62 (by decide) (fun c62_5 => ?_) (fun c62_5 => ?_)
        · exact absurd c62_5 (by decide)
        refine lv_aload_n hx hb dX3_rebuild_65 rfl (lv_at hl 1 rfl) ?_
        refine r_get (C := RX3) (T := TX3) (N := 7) (k := 1) (q0 := 0) (v := .ref (q 2)) hx hb hts hi3 hown hI rfl rfl (by decide) (hts (.fieldLink RX3 19 "Buildlots" "builds" "LBuildlots$Builds;") (List.mem_of_getElem? (i := 3) rfl)) rfl rfl dX3_rebuild_66 ?_
        refine r_getN (C := RX0) (T := TX0) (N := 10) (k := 7) (q0 := 2) (v := .ref (q 16)) hx hb hts hi0 hown hI rfl rfl (by decide) (List.mem_of_getElem? (i := 10) rfl) rfl rfl dX3_rebuild_69 ?_
        refine lv_iload_n hx hb dX3_rebuild_72 rfl (lv_at hl 2 rfl) ?_
        refine lv_dup2_11 hx hb dX3_rebuild_73 rfl rfl ?_
        refine r_iald (q0 := 16) (j := (ix b)) (n := 24) (f := (A 12)) hx hb hI rfl hk_b (by omega) (by decide) dX3_rebuild_74 ?_
        refine lv_iconst (v := 1) hx hb dX3_rebuild_75 (by decide) ?_
        refine lv_iadd hx hb dX3_rebuild_76 ?_
        refine r_iast (w' := wX cy q (uA (uA A 11 (upd (A 11) (ix b) ((A 11 (ix b)) + 1))) 12 (upd (A 12) (ix b) ((A 12 (ix b)) + 1))) S) (q0 := 16) (j := (ix b)) (n := 24) (f := (A 12)) hx hb hI hS hqA hh0 (qA_X hI) rfl hk_b (by omega) (by decide) dX3_rebuild_77 rfl (fun H locs hI hS => ?_)
        refine lv_iload_n hx hb dX3_rebuild_78 rfl (lv_at hl 0 rfl) ?_
        rw [show wX cy q (uA (uA A 11 (upd (A 11) (ix b) ((A 11 (ix b)) + 1))) 12 (upd (A 12) (ix b) ((A 12 (ix b)) + 1))) S = wX cy q (rbA A b r) S from (by simp [rbA, x2_1, c16_2, c39_3, ])] at hI
        exact end_xwz hx hb hr rfl (by first | (simp only [exRebuild, x2_1, c16_2, c39_3, ↓reduceIte, Bool.false_eq_true, reduceCtorEq]; done) | simp [exRebuild, x2_1, c16_2, c39_3]) (by simp [bI, x2_1, c16_2, c39_3, ]) hI hS dX3_rebuild_79 hlk
    · exact r_throw (text := "no room for another result") hx hb hst hown (by decide) (by decide) tg_ISE tb_ISE (hts (.classLink RX3 58 "java/lang/IllegalStateException") (List.mem_of_getElem? (i := 1) rfl)) (hts (.initialized "java/lang/IllegalStateException") (List.mem_of_getElem? (i := 2) rfl)) (fun w h => hts w (List.mem_cons_of_mem _ (List.mem_append_left _ (List.mem_append_right _ h)))) (by decide) hG hS (by rw [hml]; exact hl.1) (by first | (simp only [exRebuild, x2_1, c16_2, ↓reduceIte, Bool.false_eq_true, reduceCtorEq]; done) | simp [exRebuild, x2_1, c16_2]) dX3_rebuild_19 dX3_rebuild_22 dX3_rebuild_23 dX3_rebuild_25 dX3_rebuild_28 hout (Nat.le_of_ble_eq_true rfl) (Nat.le_of_ble_eq_true rfl) (Nat.le_refl _) (Nat.le_refl _) hlk
  · refine xb_v (E := xIOB) (exR_s x2_1) (vx_runV (As := [.int b]) (rest := []) ⟨hx, hb, hml, hown, hts⟩ (c_X3_requireBuild l hst D cy h0 q A S b nb hnb hcb) (cwV 1 hts gX3_rebuild_X3_requireBuild rfl rfl rfl (by decide +kernel) ⟨Nat.le_of_ble_eq_true rfl, Nat.le_of_ble_eq_true rfl⟩) (hI.preV (k0 := 0) rfl rfl) rfl rfl hl.1 rfl (lv_room (Nat.le_of_ble_eq_true rfl)) dX3_rebuild_2 (rm_bad (ex' := exRebuild A b nb) (exR_s x2_1) ((by first | (simp only [exRebuild, x2_1, ↓reduceIte, Bool.false_eq_true, reduceCtorEq]; done) | simp [exRebuild, x2_1])))) hI hS (fun ce q9 H locs hI hS hce hcv hcl => ?_)
    exact r_out (by first | (simp only [exRebuild, x2_1, ↓reduceIte, Bool.false_eq_true, reduceCtorEq]; done) | simp [exRebuild, x2_1]) hS hout hlk hce hcv hcl

set_option maxHeartbeats 4000000 in
set_option maxRecDepth 100000 in
theorem c_X3_share (l : Launch) (hst : l.stackTraces = false) (D : va_G) (cy : Nat → ClassId) (h0 : Nat) (q : Nat → Nat) (A : Nat → Nat → Int32) (S : Nat → Int32) (b : Int32) (nb : Nat) (hnb : nb ≤ 24) (hcb : S 5 = nI nb) : vx_Met l yX3_share wsX3_share (rmX (exShare A b nb) 7 103) (va_Pc [.ref (q 0), .int b] (pI D cy h0 (wX cy q A S))) (xoF (exShare A b nb) (FP.fdiv (FP.i2f (A 12 (ix b))) (FP.i2f (A 11 (ix b))))) (xx (exShare A b nb)) (c1 (exShare A b nb)) (c6 (exShare A b nb)) nof := by
  refine vx_ofW (cc := cX3_share) (maxL := 3) (ret := (some .float)) (by decide) rfl ?_
  intro p e s m args below meth c s₁ B hml hout hv
  obtain ⟨rfl, hI⟩ := hv
  have hx := B.exec
  have hb := B.bytes
  have hr := B.returns
  have hts := atoms_spec (ws := wsX3_share) B.pre
  have hown : s.vm.findClass RX3 = some m.cls := findClass_of_methodNamed B.named
  have hlk := B.notSynchronized
  have hI : IH D cy h0 (wX cy q A S) s s.heap := hI
  have hG := hI.1
  have hS : va_S nof s.heap s.heap [] := va_S.rf
  have hi0 : ∀ w ∈ wsX00, w ∈ wsX3_share := by decide +kernel
  have hi3 : ∀ w ∈ wsX30, w ∈ wsX3_share := by decide +kernel
  have hl := lv_entry ([.ref (q 0), .int b]) (n := 3) (Nat.le_of_ble_eq_true rfl)
  rw [lg_entry_eq]
  generalize (lg_sl ([.ref (q 0), .int b]) ++ List.replicate (3 - (lg_sl ([.ref (q 0), .int b])).length) Slot.unset).toArray = ls at hl ⊢
  have hl : lv_has ls 3 [(0, .ref (q 0)), (1, .int b)] := hl
  refine lv_aload_n hx hb dX3_share_0 rfl (lv_at hl 0 rfl) ?_
  refine lv_iload_n hx hb dX3_share_1 rfl (lv_at hl 1 rfl) ?_
  rcases Classical.em (inR b nb = true) with x2_1 | x2_1
  · refine xo_v (exR_n x2_1) (vx_runV (As := [.int b]) (rest := []) ⟨hx, hb, hml, hown, hts⟩ (c_X3_requireBuild l hst D cy h0 q A S b nb hnb hcb) (cwV 1 hts gX3_share_X3_requireBuild rfl rfl rfl (by decide +kernel) ⟨Nat.le_of_ble_eq_true rfl, Nat.le_of_ble_eq_true rfl⟩) (hI.preV (k0 := 0) rfl rfl) rfl rfl hl.1 rfl (lv_room (Nat.le_of_ble_eq_true rfl)) dX3_share_2 (rm_ok (exR_n x2_1) (Nat.zero_le _) (Nat.zero_le _))) hI hS (fun H locs hI hS => ?_)
    obtain ⟨hj_b, hk_b⟩ := inR_c (by omega) x2_1
    refine lv_aload_n hx hb dX3_share_5 rfl (lv_at hl 0 rfl) ?_
    refine r_get (C := RX3) (T := TX3) (N := 7) (k := 1) (q0 := 0) (v := .ref (q 2)) hx hb hts hi3 hown hI rfl rfl (by decide) (hts (.fieldLink RX3 19 "Buildlots" "builds" "LBuildlots$Builds;") (List.mem_of_getElem? (i := 3) rfl)) rfl rfl dX3_share_6 ?_
    refine r_getN (C := RX0) (T := TX0) (N := 10) (k := 6) (q0 := 2) (v := .ref (q 15)) hx hb hts hi0 hown hI rfl rfl (by decide) (List.mem_of_getElem? (i := 8) rfl) rfl rfl dX3_share_9 ?_
    refine lv_iload_n hx hb dX3_share_12 rfl (lv_at hl 1 rfl) ?_
    refine r_iald (q0 := 15) (j := (ix b)) (n := 24) (f := (A 11)) hx hb hI rfl hk_b (by omega) (by decide) dX3_share_13 ?_
    refine lv_istore_n (lv' := [(2, .int (A 11 (ix b))), (0, .ref (q 0)), (1, .int b)]) hx hb dX3_share_14 rfl hl (by decide) rfl (fun ls hl => ?_)
    refine lv_iload_n hx hb dX3_share_15 rfl (lv_at hl 0 rfl) ?_
    refine lv_if_gt (tgt := 29) hx hb dX3_share_16 (by decide) (fun c16_2 => ?_) (fun c16_2 => ?_)
    · refine lv_aload_n hx hb dX3_share_29 rfl (lv_at hl 1 rfl) ?_
      refine r_get (C := RX3) (T := TX3) (N := 7) (k := 1) (q0 := 0) (v := .ref (q 2)) hx hb hts hi3 hown hI rfl rfl (by decide) (hts (.fieldLink RX3 19 "Buildlots" "builds" "LBuildlots$Builds;") (List.mem_of_getElem? (i := 3) rfl)) rfl rfl dX3_share_30 ?_
      refine r_getN (C := RX0) (T := TX0) (N := 10) (k := 7) (q0 := 2) (v := .ref (q 16)) hx hb hts hi0 hown hI rfl rfl (by decide) (List.mem_of_getElem? (i := 10) rfl) rfl rfl dX3_share_33 ?_
      refine lv_iload_n hx hb dX3_share_36 rfl (lv_at hl 2 rfl) ?_
      refine r_iald (q0 := 16) (j := (ix b)) (n := 24) (f := (A 12)) hx hb hI rfl hk_b (by omega) (by decide) dX3_share_37 ?_
      refine lv_i2f hx hb dX3_share_38 ?_
      refine lv_iload_n hx hb dX3_share_39 rfl (lv_at hl 0 rfl) ?_
      refine lv_i2f hx hb dX3_share_40 ?_
      refine lv_fdiv hx hb dX3_share_41 (nn_sh _ _ c16_2) ?_
      exact end_xof hx hb hr (by first | (simp only [exShare, x2_1, c16_2, ↓reduceIte, Bool.false_eq_true, reduceCtorEq]; done) | simp [exShare, x2_1, c16_2]) rfl hS dX3_share_42 hlk
    · exact r_throwN (text := "no result was told") hx hb hst hown (by decide) (by decide) tg_NSE tb_NSE (hts (.classLink RX3 197 "java/util/NoSuchElementException") (List.mem_of_getElem? (i := 1) rfl)) (hts (.initialized "java/util/NoSuchElementException") (List.mem_of_getElem? (i := 2) rfl)) (fun w h => hts w (List.mem_cons_of_mem _ (List.mem_append_left _ (List.mem_append_right _ h)))) (by decide) hG hS (by rw [hml]; exact hl.1) (by first | (simp only [exShare, x2_1, c16_2, ↓reduceIte, Bool.false_eq_true, reduceCtorEq]; done) | simp [exShare, x2_1, c16_2]) dX3_share_19 dX3_share_22 dX3_share_23 dX3_share_25 dX3_share_28 hout (Nat.le_of_ble_eq_true rfl) (Nat.le_of_ble_eq_true rfl) (Nat.le_refl _) (Nat.le_refl _) hlk
  · refine xb_v (E := xIOB) (exR_s x2_1) (vx_runV (As := [.int b]) (rest := []) ⟨hx, hb, hml, hown, hts⟩ (c_X3_requireBuild l hst D cy h0 q A S b nb hnb hcb) (cwV 1 hts gX3_share_X3_requireBuild rfl rfl rfl (by decide +kernel) ⟨Nat.le_of_ble_eq_true rfl, Nat.le_of_ble_eq_true rfl⟩) (hI.preV (k0 := 0) rfl rfl) rfl rfl hl.1 rfl (lv_room (Nat.le_of_ble_eq_true rfl)) dX3_share_2 (rm_bad (ex' := exShare A b nb) (exR_s x2_1) ((by first | (simp only [exShare, x2_1, ↓reduceIte, Bool.false_eq_true, reduceCtorEq]; done) | simp [exShare, x2_1])))) hI hS (fun ce q9 H locs hI hS hce hcv hcl => ?_)
    exact r_out (by first | (simp only [exShare, x2_1, ↓reduceIte, Bool.false_eq_true, reduceCtorEq]; done) | simp [exShare, x2_1]) hS hout hlk hce hcv hcl

set_option maxHeartbeats 4000000 in
set_option maxRecDepth 100000 in
theorem c_X3_addMirror (l : Launch) (hst : l.stackTraces = false) (D : va_G) (cy : Nat → ClassId) (h0 : Nat) (q : Nat → Nat) (A : Nat → Nat → Int32) (S : Nat → Int32) (nm : Nat) (hnm : nm ≤ 3) (hcm : S 6 = nI nm) : vx_Met l yX3_addMirror wsX3_addMirror (rmX (exAddMirror S) 6 82) (va_Pc [.ref (q 0)] (pI D cy h0 (wX cy q A S))) (xwI (exAddMirror S) (S 6) D cy h0 (wX cy q (uA (uA A 13 (upd (A 13) nm (-1))) 14 (upd (A 14) nm 0)) (uS S 6 (S 6 + 1))) (qA 19 q)) (xx (exAddMirror S)) (c1 (exAddMirror S)) (c6 (exAddMirror S)) (qA 19 q) := by
  refine vx_ofW (cc := cX3_addMirror) (maxL := 1) (ret := (some .int)) (by decide) rfl ?_
  intro p e s m args below meth c s₁ B hml hout hv
  obtain ⟨rfl, hI⟩ := hv
  have hx := B.exec
  have hb := B.bytes
  have hr := B.returns
  have hts := atoms_spec (ws := wsX3_addMirror) B.pre
  have hown : s.vm.findClass RX3 = some m.cls := findClass_of_methodNamed B.named
  have hlk := B.notSynchronized
  have hI : IH D cy h0 (wX cy q A S) s s.heap := hI
  have hG := hI.1
  have hqA := hA_X hI
  have hh0 : h0 ≤ s.heap.size := hI.1.2.2.2
  have hS : va_S nof s.heap s.heap [] := va_S.rf
  have hi2 : ∀ w ∈ wsX20, w ∈ wsX3_addMirror := by decide +kernel
  have hi3 : ∀ w ∈ wsX30, w ∈ wsX3_addMirror := by decide +kernel
  have hl := lv_entry ([.ref (q 0)]) (n := 1) (Nat.le_of_ble_eq_true rfl)
  rw [lg_entry_eq]
  generalize (lg_sl ([.ref (q 0)]) ++ List.replicate (1 - (lg_sl ([.ref (q 0)])).length) Slot.unset).toArray = ls at hl ⊢
  have hl : lv_has ls 1 [(0, .ref (q 0))] := hl
  refine lv_aload_n hx hb dX3_addMirror_0 rfl (lv_at hl 0 rfl) ?_
  refine r_get (C := RX3) (T := TX3) (N := 7) (k := 2) (q0 := 0) (v := .ref (q 3)) hx hb hts hi3 hown hI rfl rfl (by decide) (hts (.fieldLink RX3 26 "Buildlots" "mirrors" "LBuildlots$Mirrors;") (List.mem_of_getElem? (i := 3) rfl)) rfl rfl dX3_addMirror_1 ?_
  refine r_getN (C := RX2) (T := TX2) (N := 3) (k := 2) (q0 := 3) (v := .int (S 6)) hx hb hts hi2 hown hI rfl rfl (by decide) (List.mem_of_getElem? (i := 11) rfl) rfl rfl dX3_addMirror_4 ?_
  refine lv_iconst (v := 3) hx hb dX3_addMirror_7 (by decide) ?_
  refine lv_icmp_lt (tgt := 21) hx hb dX3_addMirror_8 (by decide) (fun c8_1 => ?_) (fun c8_1 => ?_)
  · refine lv_aload_n hx hb dX3_addMirror_21 rfl (lv_at hl 0 rfl) ?_
    refine r_get (C := RX3) (T := TX3) (N := 7) (k := 2) (q0 := 0) (v := .ref (q 3)) hx hb hts hi3 hown hI rfl rfl (by decide) (hts (.fieldLink RX3 26 "Buildlots" "mirrors" "LBuildlots$Mirrors;") (List.mem_of_getElem? (i := 3) rfl)) rfl rfl dX3_addMirror_22 ?_
    have hS := hS.mono (B := qA 19 q) (fun _ h => h.elim)
    refine rw_i (w' := wX cy q (uA (uA A 13 (upd (A 13) nm (-1))) 14 (upd (A 14) nm 0)) (uS S 6 (S 6 + 1))) (va_runVN (As := []) (rest := []) ⟨hx, hb, hml, hown, hts⟩ (c_X2_append l D cy h0 q A S nm hnm hcm (lt_c (n := 3) hcm c8_1 (by omega) (by decide))) ⟨va_cnB (host := RX3) 0 hts gX3_addMirror_X2_append_n205 rfl rfl rfl (hG.1.2.1 (RX3, 205, yX2_append) (List.mem_of_getElem? (i := 18) rfl)) (hts (.initialized RX2) (List.mem_of_getElem? (i := 5) rfl)) (by decide +kernel) ⟨Nat.le_of_ble_eq_true rfl, Nat.le_of_ble_eq_true rfl⟩, (hts (.instanceMethod yX2_append) (List.mem_of_getElem? (i := 4) rfl)), (hts (.selects RX2 yX2_append yX2_append) (List.mem_of_getElem? (i := 6) rfl))⟩ (hI.preV (k0 := 3) rfl rfl) rfl rfl hl.1 rfl (lv_room (Nat.le_of_ble_eq_true rfl)) dX3_addMirror_25 ⟨Nat.le_of_ble_eq_true rfl, Nat.le_of_ble_eq_true rfl⟩) hI hS (fun _ h => h) hqA (fun H locs hI hS => ?_)
    exact end_xwi hx hb hr (by first | (simp only [exAddMirror, c8_1, ↓reduceIte, Bool.false_eq_true, reduceCtorEq]; done) | simp [exAddMirror, c8_1]) rfl hI hS dX3_addMirror_28 hlk
  · exact r_throw (text := "no room for another mirror") hx hb hst hown (by decide) (by decide) tg_ISE tb_ISE (hts (.classLink RX3 58 "java/lang/IllegalStateException") (List.mem_of_getElem? (i := 1) rfl)) (hts (.initialized "java/lang/IllegalStateException") (List.mem_of_getElem? (i := 2) rfl)) (fun w h => hts w (List.mem_cons_of_mem _ (List.mem_append_right _ h))) (by decide) hG hS (by rw [hml]; exact hl.1) (by first | (simp only [exAddMirror, c8_1, ↓reduceIte, Bool.false_eq_true, reduceCtorEq]; done) | simp [exAddMirror, c8_1]) dX3_addMirror_11 dX3_addMirror_14 dX3_addMirror_15 dX3_addMirror_17 dX3_addMirror_20 hout (Nat.le_of_ble_eq_true rfl) (Nat.le_of_ble_eq_true rfl) (Nat.le_refl _) (Nat.le_refl _) hlk

set_option maxHeartbeats 4000000 in
set_option maxRecDepth 100000 in
theorem c_X3_update (l : Launch) (hst : l.stackTraces = false) (D : va_G) (cy : Nat → ClassId) (h0 : Nat) (q : Nat → Nat) (A : Nat → Nat → Int32) (S : Nat → Int32) (x : Int32) (nb : Nat) (hnb : nb ≤ 24) (hcb : S 5 = nI nb) (nm : Nat) (hnm : nm ≤ 3) (hcm : S 6 = nI nm) : vx_Met l yX3_update wsX3_update (rmX (exR x nm xIOB) 7 103) (va_Pc [.ref (q 0), .int x] (pI D cy h0 (wX cy q A S))) (xwI (exR x nm xIOB) (S 5) D cy h0 (wX cy q (upA A S x nb) S) (qA 19 q)) (xx (exR x nm xIOB)) (c1 (exR x nm xIOB)) (c6 (exR x nm xIOB)) (qA 19 q) := by
  refine vx_ofW (cc := cX3_update) (maxL := 2) (ret := (some .int)) (by decide) rfl ?_
  intro p e s m args below meth c s₁ B hml hout hv
  obtain ⟨rfl, hI⟩ := hv
  have hx := B.exec
  have hb := B.bytes
  have hr := B.returns
  have hts := atoms_spec (ws := wsX3_update) B.pre
  have hown : s.vm.findClass RX3 = some m.cls := findClass_of_methodNamed B.named
  have hlk := B.notSynchronized
  have hI : IH D cy h0 (wX cy q A S) s s.heap := hI
  have hG := hI.1
  have hqA := hA_X hI
  have hh0 : h0 ≤ s.heap.size := hI.1.2.2.2
  have hS : va_S nof s.heap s.heap [] := va_S.rf
  have hi0 : ∀ w ∈ wsX00, w ∈ wsX3_update := by decide +kernel
  have hi2 : ∀ w ∈ wsX20, w ∈ wsX3_update := by decide +kernel
  have hi3 : ∀ w ∈ wsX30, w ∈ wsX3_update := by decide +kernel
  have hl := lv_entry ([.ref (q 0), .int x]) (n := 2) (Nat.le_of_ble_eq_true rfl)
  rw [lg_entry_eq]
  generalize (lg_sl ([.ref (q 0), .int x]) ++ List.replicate (2 - (lg_sl ([.ref (q 0), .int x])).length) Slot.unset).toArray = ls at hl ⊢
  have hl : lv_has ls 2 [(0, .ref (q 0)), (1, .int x)] := hl
  refine lv_aload_n hx hb dX3_update_0 rfl (lv_at hl 0 rfl) ?_
  refine lv_iload_n hx hb dX3_update_1 rfl (lv_at hl 1 rfl) ?_
  rcases Classical.em (inR x nm = true) with x2_1 | x2_1
  · refine xo_v (exR_n x2_1) (vx_runV (As := [.int x]) (rest := []) ⟨hx, hb, hml, hown, hts⟩ (c_X3_requireMirror l hst D cy h0 q A S x nm hnm hcm) (cwV 1 hts gX3_update_X3_requireMirror rfl rfl rfl (by decide +kernel) ⟨Nat.le_of_ble_eq_true rfl, Nat.le_of_ble_eq_true rfl⟩) (hI.preV (k0 := 0) rfl rfl) rfl rfl hl.1 rfl (lv_room (Nat.le_of_ble_eq_true rfl)) dX3_update_2 (rm_ok (exR_n x2_1) (Nat.zero_le _) (Nat.zero_le _))) hI hS (fun H locs hI hS => ?_)
    obtain ⟨hj_x, hk_x⟩ := inR_c (by omega) x2_1
    refine lv_aload_n hx hb dX3_update_5 rfl (lv_at hl 0 rfl) ?_
    refine r_get (C := RX3) (T := TX3) (N := 7) (k := 2) (q0 := 0) (v := .ref (q 3)) hx hb hts hi3 hown hI rfl rfl (by decide) (hts (.fieldLink RX3 26 "Buildlots" "mirrors" "LBuildlots$Mirrors;") (List.mem_of_getElem? (i := 1) rfl)) rfl rfl dX3_update_6 ?_
    refine r_getN (C := RX2) (T := TX2) (N := 3) (k := 1) (q0 := 3) (v := .ref (q 18)) hx hb hts hi2 hown hI rfl rfl (by decide) (List.mem_of_getElem? (i := 12) rfl) rfl rfl dX3_update_9 ?_
    refine lv_iload_n hx hb dX3_update_12 rfl (lv_at hl 1 rfl) ?_
    refine lv_aload_n hx hb dX3_update_13 rfl (lv_at hl 0 rfl) ?_
    refine r_get (C := RX3) (T := TX3) (N := 7) (k := 1) (q0 := 0) (v := .ref (q 2)) hx hb hts hi3 hown hI rfl rfl (by decide) (hts (.fieldLink RX3 19 "Buildlots" "builds" "LBuildlots$Builds;") (List.mem_of_getElem? (i := 2) rfl)) rfl rfl dX3_update_14 ?_
    refine ro_i (va_runVN (As := []) (rest := [.int x, .ref (q 18)]) ⟨hx, hb, hml, hown, hts⟩ (c_X0_all l D cy h0 q A S) ⟨va_cnB (host := RX3) 0 hts gX3_update_X0_all_n113 rfl rfl rfl (hG.1.2.1 (RX3, 113, yX0_all) (List.mem_of_getElem? (i := 10) rfl)) (hts (.initialized RX0) (List.mem_of_getElem? (i := 12) rfl)) (by decide +kernel) ⟨Nat.le_of_ble_eq_true rfl, Nat.le_of_ble_eq_true rfl⟩, (hts (.instanceMethod yX0_all) (List.mem_of_getElem? (i := 11) rfl)), (hts (.selects RX0 yX0_all yX0_all) (List.mem_of_getElem? (i := 13) rfl))⟩ (hI.preV (k0 := 2) rfl rfl) rfl rfl hl.1 rfl (lv_room (Nat.le_of_ble_eq_true rfl)) dX3_update_17 ⟨Nat.le_of_ble_eq_true rfl, Nat.le_of_ble_eq_true rfl⟩) hI hS (fun H locs hI hS => ?_)
    refine lv_aload_n hx hb dX3_update_20 rfl (lv_at hl 0 rfl) ?_
    refine r_get (C := RX3) (T := TX3) (N := 7) (k := 1) (q0 := 0) (v := .ref (q 2)) hx hb hts hi3 hown hI rfl rfl (by decide) (hts (.fieldLink RX3 19 "Buildlots" "builds" "LBuildlots$Builds;") (List.mem_of_getElem? (i := 2) rfl)) rfl rfl dX3_update_21 ?_
    refine ro_i (va_runVN (As := []) (rest := [.int (ly (S 5) - 1), .int x, .ref (q 18)]) ⟨hx, hb, hml, hown, hts⟩ (c_X0_recalled l D cy h0 q A S nb hnb hcb) ⟨va_cnB (host := RX3) 0 hts gX3_update_X0_recalled_n118 rfl rfl rfl (hG.1.2.1 (RX3, 118, yX0_recalled) (List.mem_of_getElem? (i := 12) rfl)) (hts (.initialized RX0) (List.mem_of_getElem? (i := 12) rfl)) (by decide +kernel) ⟨Nat.le_of_ble_eq_true rfl, Nat.le_of_ble_eq_true rfl⟩, (hts (.instanceMethod yX0_recalled) (List.mem_of_getElem? (i := 18) rfl)), (hts (.selects RX0 yX0_recalled yX0_recalled) (List.mem_of_getElem? (i := 19) rfl))⟩ (hI.preV (k0 := 2) rfl rfl) rfl rfl hl.1 rfl (lv_room (Nat.le_of_ble_eq_true rfl)) dX3_update_24 ⟨Nat.le_of_ble_eq_true rfl, Nat.le_of_ble_eq_true rfl⟩) hI hS (fun H locs hI hS => ?_)
    refine lv_iconst (v := (-1)) hx hb dX3_update_27 (by decide) ?_
    refine lv_ixor hx hb dX3_update_28 ?_
    refine lv_iand hx hb dX3_update_29 ?_
    have hS := hS.mono (B := qA 19 q) (fun _ h => h.elim)
    refine r_iast (w' := wX cy q (uA A 14 (upd (A 14) (ix x) ((ly (S 5) - 1) &&& ((rcF (A 7) (S 4) nb) ^^^ (-1))))) S) (q0 := 18) (j := (ix x)) (n := 3) (f := (A 14)) hx hb hI hS hqA hh0 (qA_X hI) rfl hk_x (by omega) (by decide) dX3_update_30 rfl (fun H locs hI hS => ?_)
    refine lv_aload_n hx hb dX3_update_31 rfl (lv_at hl 0 rfl) ?_
    refine r_get (C := RX3) (T := TX3) (N := 7) (k := 2) (q0 := 0) (v := .ref (q 3)) hx hb hts hi3 hown hI rfl rfl (by decide) (hts (.fieldLink RX3 26 "Buildlots" "mirrors" "LBuildlots$Mirrors;") (List.mem_of_getElem? (i := 1) rfl)) rfl rfl dX3_update_32 ?_
    refine r_getN (C := RX2) (T := TX2) (N := 3) (k := 0) (q0 := 3) (v := .ref (q 17)) hx hb hts hi2 hown hI rfl rfl (by decide) (List.mem_of_getElem? (i := 13) rfl) rfl rfl dX3_update_35 ?_
    refine lv_iload_n hx hb dX3_update_38 rfl (lv_at hl 1 rfl) ?_
    refine lv_aload_n hx hb dX3_update_39 rfl (lv_at hl 0 rfl) ?_
    refine r_get (C := RX3) (T := TX3) (N := 7) (k := 6) (q0 := 0) (v := .int (S 1)) hx hb hts hi3 hown hI rfl rfl (by decide) (hts (.fieldLink RX3 41 "Buildlots" "today" "I") (List.mem_of_getElem? (i := 3) rfl)) rfl rfl dX3_update_40 ?_
    refine r_iast (w' := wX cy q (uA (uA A 14 (upd (A 14) (ix x) ((ly (S 5) - 1) &&& ((rcF (A 7) (S 4) nb) ^^^ (-1))))) 13 (upd (A 13) (ix x) (S 1))) S) (q0 := 17) (j := (ix x)) (n := 3) (f := (A 13)) hx hb hI hS hqA hh0 (qA_X hI) rfl hk_x (by omega) (by decide) dX3_update_43 rfl (fun H locs hI hS => ?_)
    refine lv_aload_n hx hb dX3_update_44 rfl (lv_at hl 0 rfl) ?_
    refine r_get (C := RX3) (T := TX3) (N := 7) (k := 1) (q0 := 0) (v := .ref (q 2)) hx hb hts hi3 hown hI rfl rfl (by decide) (hts (.fieldLink RX3 19 "Buildlots" "builds" "LBuildlots$Builds;") (List.mem_of_getElem? (i := 2) rfl)) rfl rfl dX3_update_45 ?_
    refine r_getN (C := RX0) (T := TX0) (N := 10) (k := 9) (q0 := 2) (v := .int (S 5)) hx hb hts hi0 hown hI rfl rfl (by decide) (List.mem_of_getElem? (i := 0) rfl) rfl rfl dX3_update_48 ?_
    rw [show wX cy q (uA (uA A 14 (upd (A 14) (ix x) ((ly (S 5) - 1) &&& ((rcF (A 7) (S 4) nb) ^^^ (-1))))) 13 (upd (A 13) (ix x) (S 1))) S = wX cy q (upA A S x nb) S from rfl] at hI
    exact end_xwi hx hb hr (by first | (simp only [exR, x2_1, ↓reduceIte, Bool.false_eq_true, reduceCtorEq]; done) | simp [exR, x2_1]) rfl hI hS dX3_update_51 hlk
  · refine xb_v (E := xIOB) (exR_s x2_1) (vx_runV (As := [.int x]) (rest := []) ⟨hx, hb, hml, hown, hts⟩ (c_X3_requireMirror l hst D cy h0 q A S x nm hnm hcm) (cwV 1 hts gX3_update_X3_requireMirror rfl rfl rfl (by decide +kernel) ⟨Nat.le_of_ble_eq_true rfl, Nat.le_of_ble_eq_true rfl⟩) (hI.preV (k0 := 0) rfl rfl) rfl rfl hl.1 rfl (lv_room (Nat.le_of_ble_eq_true rfl)) dX3_update_2 (rm_bad (ex' := exR x nm xIOB) (exR_s x2_1) ((by first | (simp only [exR, x2_1, ↓reduceIte, Bool.false_eq_true, reduceCtorEq]; done) | simp [exR, x2_1])))) hI hS (fun ce q9 H locs hI hS hce hcv hcl => ?_)
    exact r_out (by first | (simp only [exR, x2_1, ↓reduceIte, Bool.false_eq_true, reduceCtorEq]; done) | simp [exR, x2_1]) hS hout hlk hce hcv hcl

set_option maxHeartbeats 4000000 in
set_option maxRecDepth 100000 in
theorem c_X3_isExpired (l : Launch) (hst : l.stackTraces = false) (D : va_G) (cy : Nat → ClassId) (h0 : Nat) (q : Nat → Nat) (A : Nat → Nat → Int32) (S : Nat → Int32) (x : Int32) (nm : Nat) (hnm : nm ≤ 3) (hcm : S 6 = nI nm) : vx_Met l yX3_isExpired wsX3_isExpired (rmX (exR x nm xIOB) 7 103) (va_Pc [.ref (q 0), .int x] (pI D cy h0 (wX cy q A S))) (xoI (exR x nm xIOB) (bI (expB A S (ix x)))) (xx (exR x nm xIOB)) (c1 (exR x nm xIOB)) (c6 (exR x nm xIOB)) nof := by
  refine vx_ofW (cc := cX3_isExpired) (maxL := 2) (ret := (some .boolean)) (by decide) rfl ?_
  intro p e s m args below meth c s₁ B hml hout hv
  obtain ⟨rfl, hI⟩ := hv
  have hx := B.exec
  have hb := B.bytes
  have hr := B.returns
  have hts := atoms_spec (ws := wsX3_isExpired) B.pre
  have hown : s.vm.findClass RX3 = some m.cls := findClass_of_methodNamed B.named
  have hlk := B.notSynchronized
  have hI : IH D cy h0 (wX cy q A S) s s.heap := hI
  have hG := hI.1
  have hS : va_S nof s.heap s.heap [] := va_S.rf
  have hi3 : ∀ w ∈ wsX30, w ∈ wsX3_isExpired := by decide +kernel
  have hl := lv_entry ([.ref (q 0), .int x]) (n := 2) (Nat.le_of_ble_eq_true rfl)
  rw [lg_entry_eq]
  generalize (lg_sl ([.ref (q 0), .int x]) ++ List.replicate (2 - (lg_sl ([.ref (q 0), .int x])).length) Slot.unset).toArray = ls at hl ⊢
  have hl : lv_has ls 2 [(0, .ref (q 0)), (1, .int x)] := hl
  refine lv_aload_n hx hb dX3_isExpired_0 rfl (lv_at hl 0 rfl) ?_
  refine lv_iload_n hx hb dX3_isExpired_1 rfl (lv_at hl 1 rfl) ?_
  rcases Classical.em (inR x nm = true) with x2_1 | x2_1
  · refine xo_v (exR_n x2_1) (vx_runV (As := [.int x]) (rest := []) ⟨hx, hb, hml, hown, hts⟩ (c_X3_requireMirror l hst D cy h0 q A S x nm hnm hcm) (cwV 1 hts gX3_isExpired_X3_requireMirror rfl rfl rfl (by decide +kernel) ⟨Nat.le_of_ble_eq_true rfl, Nat.le_of_ble_eq_true rfl⟩) (hI.preV (k0 := 0) rfl rfl) rfl rfl hl.1 rfl (lv_room (Nat.le_of_ble_eq_true rfl)) dX3_isExpired_2 (rm_ok (exR_n x2_1) (Nat.zero_le _) (Nat.zero_le _))) hI hS (fun H locs hI hS => ?_)
    obtain ⟨hj_x, hk_x⟩ := inR_c (by omega) x2_1
    refine lv_aload_n hx hb dX3_isExpired_5 rfl (lv_at hl 0 rfl) ?_
    refine lv_iload_n hx hb dX3_isExpired_6 rfl (lv_at hl 1 rfl) ?_
    refine ro_i (va_runV (As := [.int x]) (rest := []) ⟨hx, hb, hml, hown, hts⟩ (c_X3_hasExpired l D cy h0 q A S x (ix x) (by omega) hk_x) (cwV 1 hts gX3_isExpired_X3_hasExpired rfl rfl rfl (by decide +kernel) ⟨Nat.le_of_ble_eq_true rfl, Nat.le_of_ble_eq_true rfl⟩) (hI.preV (k0 := 0) rfl rfl) rfl rfl hl.1 rfl (lv_room (Nat.le_of_ble_eq_true rfl)) dX3_isExpired_7 ⟨Nat.le_of_ble_eq_true rfl, Nat.le_of_ble_eq_true rfl⟩) hI hS (fun H locs hI hS => ?_)
    exact end_xoz hx hb hr (nz_bI _) (by first | (simp only [exR, x2_1, ↓reduceIte, Bool.false_eq_true, reduceCtorEq]; done) | simp [exR, x2_1]) rfl hS dX3_isExpired_10 hlk
  · refine xb_v (E := xIOB) (exR_s x2_1) (vx_runV (As := [.int x]) (rest := []) ⟨hx, hb, hml, hown, hts⟩ (c_X3_requireMirror l hst D cy h0 q A S x nm hnm hcm) (cwV 1 hts gX3_isExpired_X3_requireMirror rfl rfl rfl (by decide +kernel) ⟨Nat.le_of_ble_eq_true rfl, Nat.le_of_ble_eq_true rfl⟩) (hI.preV (k0 := 0) rfl rfl) rfl rfl hl.1 rfl (lv_room (Nat.le_of_ble_eq_true rfl)) dX3_isExpired_2 (rm_bad (ex' := exR x nm xIOB) (exR_s x2_1) ((by first | (simp only [exR, x2_1, ↓reduceIte, Bool.false_eq_true, reduceCtorEq]; done) | simp [exR, x2_1])))) hI hS (fun ce q9 H locs hI hS hce hcv hcl => ?_)
    exact r_out (by first | (simp only [exR, x2_1, ↓reduceIte, Bool.false_eq_true, reduceCtorEq]; done) | simp [exR, x2_1]) hS hout hlk hce hcv hcl

set_option maxHeartbeats 4000000 in
set_option maxRecDepth 100000 in
theorem c_X3_setExpiry (l : Launch) (hst : l.stackTraces = false) (D : va_G) (cy : Nat → ClassId) (h0 : Nat) (q : Nat → Nat) (A : Nat → Nat → Int32) (S : Nat → Int32) (d : Int32) : vx_Met l yX3_setExpiry wsX3_setExpiry (rmX (exSetExpiry d) 6 82) (va_Pc [.ref (q 0), .int d] (pI D cy h0 (wX cy q A S))) (xwI (exSetExpiry d) (S 0) D cy h0 (wX cy q A (uS S 0 d)) (qA 19 q)) (xx (exSetExpiry d)) (c1 (exSetExpiry d)) (c6 (exSetExpiry d)) (qA 19 q) := by
  refine vx_ofW (cc := cX3_setExpiry) (maxL := 3) (ret := (some .int)) (by decide) rfl ?_
  intro p e s m args below meth c s₁ B hml hout hv
  obtain ⟨rfl, hI⟩ := hv
  have hx := B.exec
  have hb := B.bytes
  have hr := B.returns
  have hts := atoms_spec (ws := wsX3_setExpiry) B.pre
  have hown : s.vm.findClass RX3 = some m.cls := findClass_of_methodNamed B.named
  have hlk := B.notSynchronized
  have hI : IH D cy h0 (wX cy q A S) s s.heap := hI
  have hG := hI.1
  have hqA := hA_X hI
  have hh0 : h0 ≤ s.heap.size := hI.1.2.2.2
  have hS : va_S nof s.heap s.heap [] := va_S.rf
  have hi3 : ∀ w ∈ wsX30, w ∈ wsX3_setExpiry := by decide +kernel
  have hl := lv_entry ([.ref (q 0), .int d]) (n := 3) (Nat.le_of_ble_eq_true rfl)
  rw [lg_entry_eq]
  generalize (lg_sl ([.ref (q 0), .int d]) ++ List.replicate (3 - (lg_sl ([.ref (q 0), .int d])).length) Slot.unset).toArray = ls at hl ⊢
  have hl : lv_has ls 3 [(0, .ref (q 0)), (1, .int d)] := hl
  refine lv_iload_n hx hb dX3_setExpiry_0 rfl (lv_at hl 1 rfl) ?_
  refine lv_if_lt (tgt := 10) hx hb dX3_setExpiry_1 (by decide) (fun c1_1 => ?_) (fun c1_1 => ?_)
  · exact r_throw (text := "no such expiry") hx hb hst hown (by decide) (by decide) tg_IAE tb_IAE (hts (.classLink RX3 48 "java/lang/IllegalArgumentException") (List.mem_of_getElem? (i := 1) rfl)) (hts (.initialized "java/lang/IllegalArgumentException") (List.mem_of_getElem? (i := 2) rfl)) (fun w h => hts w (List.mem_cons_of_mem _ (List.mem_append_right _ h))) (by decide) hG hS (by rw [hml]; exact hl.1) (by first | (simp only [exSetExpiry, c1_1, ↓reduceIte, Bool.false_eq_true, reduceCtorEq]; done) | simp [exSetExpiry, c1_1]) dX3_setExpiry_10 dX3_setExpiry_13 dX3_setExpiry_14 dX3_setExpiry_16 dX3_setExpiry_19 hout (Nat.le_of_ble_eq_true rfl) (Nat.le_of_ble_eq_true rfl) (Nat.le_refl _) (Nat.le_refl _) hlk
  · refine lv_iload_n hx hb dX3_setExpiry_4 rfl (lv_at hl 1 rfl) ?_
    refine lv_bipush (v := 99) hx hb dX3_setExpiry_5 (by decide) ?_
    refine lv_icmp_le (tgt := 20) hx hb dX3_setExpiry_7 (by decide) (fun c7_2 => ?_) (fun c7_2 => ?_)
    · refine lv_aload_n hx hb dX3_setExpiry_20 rfl (lv_at hl 0 rfl) ?_
      refine r_get (C := RX3) (T := TX3) (N := 7) (k := 5) (q0 := 0) (v := .int (S 0)) hx hb hts hi3 hown hI rfl rfl (by decide) (hts (.fieldLink RX3 37 "Buildlots" "expiry" "I") (List.mem_of_getElem? (i := 3) rfl)) rfl rfl dX3_setExpiry_21 ?_
      refine lv_istore_n (lv' := [(2, .int (S 0)), (0, .ref (q 0)), (1, .int d)]) hx hb dX3_setExpiry_24 rfl hl (by decide) rfl (fun ls hl => ?_)
      refine lv_aload_n hx hb dX3_setExpiry_25 rfl (lv_at hl 1 rfl) ?_
      refine lv_iload_n hx hb dX3_setExpiry_26 rfl (lv_at hl 2 rfl) ?_
      have hS := hS.mono (B := qA 19 q) (fun _ h => h.elim)
      refine r_put (w' := wX cy q A (uS S 0 d)) (C := RX3) (T := TX3) (N := 7) (k := 5) (q0 := 0) (ty := .int) (v := .int d) hx hb hts hi3 tyX3_ok nmX3 hown hI hS hqA hh0 (qA_X hI) rfl rfl (by decide) (hts (.fieldLink RX3 37 "Buildlots" "expiry" "I") (List.mem_of_getElem? (i := 3) rfl)) rfl rfl (by decide +kernel) rfl rfl (Nat.le_of_ble_eq_true rfl) dX3_setExpiry_27 rfl (fun H locs hI hS => ?_)
      refine lv_iload_n hx hb dX3_setExpiry_30 rfl (lv_at hl 0 rfl) ?_
      exact end_xwi hx hb hr (by first | (simp only [exSetExpiry, c1_1, c7_2, ↓reduceIte, Bool.false_eq_true, reduceCtorEq]; done) | simp [exSetExpiry, c1_1, c7_2]) rfl hI hS dX3_setExpiry_31 hlk
    · exact r_throw (text := "no such expiry") hx hb hst hown (by decide) (by decide) tg_IAE tb_IAE (hts (.classLink RX3 48 "java/lang/IllegalArgumentException") (List.mem_of_getElem? (i := 1) rfl)) (hts (.initialized "java/lang/IllegalArgumentException") (List.mem_of_getElem? (i := 2) rfl)) (fun w h => hts w (List.mem_cons_of_mem _ (List.mem_append_right _ h))) (by decide) hG hS (by rw [hml]; exact hl.1) (by first | (simp only [exSetExpiry, c1_1, c7_2, ↓reduceIte, Bool.false_eq_true, reduceCtorEq]; done) | simp [exSetExpiry, c1_1, c7_2]) dX3_setExpiry_10 dX3_setExpiry_13 dX3_setExpiry_14 dX3_setExpiry_16 dX3_setExpiry_19 hout (Nat.le_of_ble_eq_true rfl) (Nat.le_of_ble_eq_true rfl) (Nat.le_refl _) (Nat.le_refl _) hlk

set_option maxHeartbeats 4000000 in
set_option maxRecDepth 100000 in
theorem c_X3_install (l : Launch) (hst : l.stackTraces = false) (D : va_G) (cy : Nat → ClassId) (h0 : Nat) (q : Nat → Nat) (A : Nat → Nat → Int32) (S : Nat → Int32) (x : Int32) (name : Int32) (nb : Nat) (hnb : nb ≤ 24) (hcb : S 5 = nI nb) (nm : Nat) (hnm : nm ≤ 3) (hcm : S 6 = nI nm) (htn : ∀ b, b < nb → ∃ t, t < 5 ∧ A 5 b = nI t) : vx_Met l yX3_install wsX3_install (rmX (exInstall A S x name nb nm) 7 108) (va_Pc [.ref (q 0), .int x, .int name] (pI D cy h0 (wX cy q A S))) (xoI (exInstall A S x name nb nm) (inX A x name nb)) (xx (exInstall A S x name nb nm)) (c1 (exInstall A S x name nb nm)) (c6 (exInstall A S x name nb nm)) nof := by
  refine vx_ofW (cc := cX3_install) (maxL := 3) (ret := (some .int)) (by decide) rfl ?_
  intro p e s m args below meth c s₁ B hml hout hv
  obtain ⟨rfl, hI⟩ := hv
  have hx := B.exec
  have hb := B.bytes
  have hr := B.returns
  have hts := atoms_spec (ws := wsX3_install) B.pre
  have hown : s.vm.findClass RX3 = some m.cls := findClass_of_methodNamed B.named
  have hlk := B.notSynchronized
  have hI : IH D cy h0 (wX cy q A S) s s.heap := hI
  have hG := hI.1
  have hS : va_S nof s.heap s.heap [] := va_S.rf
  have hi0 : ∀ w ∈ wsX00, w ∈ wsX3_install := by decide +kernel
  have hi2 : ∀ w ∈ wsX20, w ∈ wsX3_install := by decide +kernel
  have hi3 : ∀ w ∈ wsX30, w ∈ wsX3_install := by decide +kernel
  have hl := lv_entry ([.ref (q 0), .int x, .int name]) (n := 3) (Nat.le_of_ble_eq_true rfl)
  rw [lg_entry_eq]
  generalize (lg_sl ([.ref (q 0), .int x, .int name]) ++ List.replicate (3 - (lg_sl ([.ref (q 0), .int x, .int name])).length) Slot.unset).toArray = ls at hl ⊢
  have hl : lv_has ls 3 [(0, .ref (q 0)), (1, .int x), (2, .int name)] := hl
  refine lv_aload_n hx hb dX3_install_0 rfl (lv_at hl 0 rfl) ?_
  refine lv_iload_n hx hb dX3_install_1 rfl (lv_at hl 1 rfl) ?_
  rcases Classical.em (inR x nm = true) with x2_1 | x2_1
  · refine xo_v (exR_n x2_1) (vx_runV (As := [.int x]) (rest := []) ⟨hx, hb, hml, hown, hts⟩ (c_X3_requireMirror l hst D cy h0 q A S x nm hnm hcm) (cwV 1 hts gX3_install_X3_requireMirror rfl rfl rfl (by decide +kernel) ⟨Nat.le_of_ble_eq_true rfl, Nat.le_of_ble_eq_true rfl⟩) (hI.preV (k0 := 0) rfl rfl) rfl rfl hl.1 rfl (lv_room (Nat.le_of_ble_eq_true rfl)) dX3_install_2 (rm_ok (exR_n x2_1) (Nat.zero_le _) (Nat.zero_le _))) hI hS (fun H locs hI hS => ?_)
    obtain ⟨hj_x, hk_x⟩ := inR_c (by omega) x2_1
    refine lv_aload_n hx hb dX3_install_5 rfl (lv_at hl 0 rfl) ?_
    refine lv_iload_n hx hb dX3_install_6 rfl (lv_at hl 2 rfl) ?_
    rcases Classical.em (inR name 5 = true) with x7_2 | x7_2
    · refine xo_v (exR_n x7_2) (vx_runV (As := [.int name]) (rest := []) ⟨hx, hb, hml, hown, hts⟩ (c_X3_requireName l hst D cy h0 q A S name) (cwV 1 hts gX3_install_X3_requireName rfl rfl rfl (by decide +kernel) ⟨Nat.le_of_ble_eq_true rfl, Nat.le_of_ble_eq_true rfl⟩) (hI.preV (k0 := 0) rfl rfl) rfl rfl hl.1 rfl (lv_room (Nat.le_of_ble_eq_true rfl)) dX3_install_7 (rm_ok (exR_n x7_2) (Nat.zero_le _) (Nat.zero_le _))) hI hS (fun H locs hI hS => ?_)
      obtain ⟨hj_name, hk_name⟩ := inR_c (by omega) x7_2
      refine lv_aload_n hx hb dX3_install_10 rfl (lv_at hl 0 rfl) ?_
      refine lv_iload_n hx hb dX3_install_11 rfl (lv_at hl 1 rfl) ?_
      refine ro_i (va_runV (As := [.int x]) (rest := []) ⟨hx, hb, hml, hown, hts⟩ (c_X3_hasExpired l D cy h0 q A S x (ix x) (by omega) hk_x) (cwV 1 hts gX3_install_X3_hasExpired rfl rfl rfl (by decide +kernel) ⟨Nat.le_of_ble_eq_true rfl, Nat.le_of_ble_eq_true rfl⟩) (hI.preV (k0 := 0) rfl rfl) rfl rfl hl.1 rfl (lv_room (Nat.le_of_ble_eq_true rfl)) dX3_install_12 ⟨Nat.le_of_ble_eq_true rfl, Nat.le_of_ble_eq_true rfl⟩) hI hS (fun H locs hI hS => ?_)
      refine r_ifeq_b (tgt := 28) hx hb dX3_install_15 (by decide) (fun c15_3 => ?_) (fun c15_3 => ?_)
      · refine lv_aload_n hx hb dX3_install_28 rfl (lv_at hl 0 rfl) ?_
        refine r_get (C := RX3) (T := TX3) (N := 7) (k := 1) (q0 := 0) (v := .ref (q 2)) hx hb hts hi3 hown hI rfl rfl (by decide) (hts (.fieldLink RX3 19 "Buildlots" "builds" "LBuildlots$Builds;") (List.mem_of_getElem? (i := 3) rfl)) rfl rfl dX3_install_29 ?_
        refine lv_iload_n hx hb dX3_install_32 rfl (lv_at hl 2 rfl) ?_
        refine lv_aload_n hx hb dX3_install_33 rfl (lv_at hl 0 rfl) ?_
        refine ro_i (va_runV (As := []) (rest := [.int name, .ref (q 2)]) ⟨hx, hb, hml, hown, hts⟩ (c_X3_trustedBuilds l D cy h0 q A S nb hnb hcb htn) (cwV 0 hts gX3_install_X3_trustedBuilds rfl rfl rfl (by decide +kernel) ⟨Nat.le_of_ble_eq_true rfl, Nat.le_of_ble_eq_true rfl⟩) (hI.preV (k0 := 0) rfl rfl) rfl rfl hl.1 rfl (lv_room (Nat.le_of_ble_eq_true rfl)) dX3_install_34 ⟨Nat.le_of_ble_eq_true rfl, Nat.le_of_ble_eq_true rfl⟩) hI hS (fun H locs hI hS => ?_)
        refine lv_aload_n hx hb dX3_install_37 rfl (lv_at hl 0 rfl) ?_
        refine r_get (C := RX3) (T := TX3) (N := 7) (k := 2) (q0 := 0) (v := .ref (q 3)) hx hb hts hi3 hown hI rfl rfl (by decide) (hts (.fieldLink RX3 26 "Buildlots" "mirrors" "LBuildlots$Mirrors;") (List.mem_of_getElem? (i := 4) rfl)) rfl rfl dX3_install_38 ?_
        refine r_getN (C := RX2) (T := TX2) (N := 3) (k := 1) (q0 := 3) (v := .ref (q 18)) hx hb hts hi2 hown hI rfl rfl (by decide) (List.mem_of_getElem? (i := 12) rfl) rfl rfl dX3_install_41 ?_
        refine lv_iload_n hx hb dX3_install_44 rfl (lv_at hl 1 rfl) ?_
        refine r_iald (q0 := 18) (j := (ix x)) (n := 3) (f := (A 14)) hx hb hI rfl hk_x (by omega) (by decide) dX3_install_45 ?_
        refine lv_iand hx hb dX3_install_46 ?_
        refine ro_i (va_runVN (As := [.int name, .int ((tbF A nb) &&& (A 14 (ix x)))]) (rest := []) ⟨hx, hb, hml, hown, hts⟩ (c_X0_newestOf l D cy h0 q A S name ((tbF A nb) &&& (A 14 (ix x))) nb hnb hcb) ⟨va_cnB (host := RX3) 2 hts gX3_install_X0_newestOf_n142 rfl rfl rfl (hG.1.2.1 (RX3, 142, yX0_newestOf) (List.mem_of_getElem? (i := 15) rfl)) (hts (.initialized RX0) (List.mem_of_getElem? (i := 46) rfl)) (by decide +kernel) ⟨Nat.le_of_ble_eq_true rfl, Nat.le_of_ble_eq_true rfl⟩, (hts (.instanceMethod yX0_newestOf) (List.mem_of_getElem? (i := 45) rfl)), (hts (.selects RX0 yX0_newestOf yX0_newestOf) (List.mem_of_getElem? (i := 47) rfl))⟩ (hI.preV (k0 := 2) rfl rfl) rfl rfl hl.1 rfl (lv_room (Nat.le_of_ble_eq_true rfl)) dX3_install_47 ⟨Nat.le_of_ble_eq_true rfl, Nat.le_of_ble_eq_true rfl⟩) hI hS (fun H locs hI hS => ?_)
        rcases Classical.em (¬ (nwF (A 5) name ((tbF A nb) &&& (A 14 (ix x))) nb) = -1) with x50_4 | x50_4
        · refine xo_i (exF_n x50_4) (vx_runS (As := [.int (nwF (A 5) name ((tbF A nb) &&& (A 14 (ix x))) nb)]) (rest := []) ⟨hx, hb, hml, hown, hts⟩ (c_X3_requireFound l hst D cy h0 q A S (nwF (A 5) name ((tbF A nb) &&& (A 14 (ix x))) nb)) (va_cwS 1 hts gX3_install_X3_requireFound rfl rfl rfl (by decide +kernel) ⟨Nat.le_of_ble_eq_true rfl, Nat.le_of_ble_eq_true rfl⟩) hI.preS rfl rfl hl.1 rfl (lv_room (Nat.le_of_ble_eq_true rfl)) dX3_install_50 (rm_ok (exF_n x50_4) (Nat.zero_le _) (Nat.zero_le _))) hI hS (fun H locs hI hS => ?_)
          exact end_xoi hx hb hr (by first | (simp only [exInstall, exF, inX, x2_1, x7_2, c15_3, x50_4, ↓reduceIte, Bool.false_eq_true, reduceCtorEq]; done) | simp [exInstall, exF, inX, x2_1, x7_2, c15_3, x50_4]) rfl hS dX3_install_53 hlk
        · refine xb_i (E := xNSE) (exF_s (Classical.not_not.mp x50_4)) (vx_runS (As := [.int (nwF (A 5) name ((tbF A nb) &&& (A 14 (ix x))) nb)]) (rest := []) ⟨hx, hb, hml, hown, hts⟩ (c_X3_requireFound l hst D cy h0 q A S (nwF (A 5) name ((tbF A nb) &&& (A 14 (ix x))) nb)) (va_cwS 1 hts gX3_install_X3_requireFound rfl rfl rfl (by decide +kernel) ⟨Nat.le_of_ble_eq_true rfl, Nat.le_of_ble_eq_true rfl⟩) hI.preS rfl rfl hl.1 rfl (lv_room (Nat.le_of_ble_eq_true rfl)) dX3_install_50 (rm_bad (ex' := exInstall A S x name nb nm) (exF_s (Classical.not_not.mp x50_4)) ((by first | (simp only [exInstall, exF, inX, x2_1, x7_2, c15_3, Classical.not_not.mp x50_4, ↓reduceIte, Bool.false_eq_true, reduceCtorEq]; done) | simp [exInstall, exF, inX, x2_1, x7_2, c15_3, Classical.not_not.mp x50_4])))) hI hS (fun ce q9 H locs hI hS hce hcv hcl => ?_)
          exact r_out (by first | (simp only [exInstall, exF, inX, x2_1, x7_2, c15_3, Classical.not_not.mp x50_4, ↓reduceIte, Bool.false_eq_true, reduceCtorEq]; done) | simp [exInstall, exF, inX, x2_1, x7_2, c15_3, Classical.not_not.mp x50_4]) hS hout hlk hce hcv hcl
      · exact r_throw (text := "the list is expired") hx hb hst hown (by decide) (by decide) tg_UOE tb_UOE (hts (.classLink RX3 121 "java/lang/UnsupportedOperationException") (List.mem_of_getElem? (i := 1) rfl)) (hts (.initialized "java/lang/UnsupportedOperationException") (List.mem_of_getElem? (i := 2) rfl)) (fun w h => hts w (List.mem_cons_of_mem _ (List.mem_append_left _ (List.mem_append_left _ (List.mem_append_left _ (List.mem_append_right _ h)))))) (by decide) hG hS (by rw [hml]; exact hl.1) (by first | (simp only [exInstall, exF, inX, x2_1, x7_2, c15_3, ↓reduceIte, Bool.false_eq_true, reduceCtorEq]; done) | simp [exInstall, exF, inX, x2_1, x7_2, c15_3]) dX3_install_18 dX3_install_21 dX3_install_22 dX3_install_24 dX3_install_27 hout (Nat.le_of_ble_eq_true rfl) (Nat.le_of_ble_eq_true rfl) (Nat.le_refl _) (Nat.le_refl _) hlk
    · refine xb_v (E := xIAE) (exR_s x7_2) (vx_runV (As := [.int name]) (rest := []) ⟨hx, hb, hml, hown, hts⟩ (c_X3_requireName l hst D cy h0 q A S name) (cwV 1 hts gX3_install_X3_requireName rfl rfl rfl (by decide +kernel) ⟨Nat.le_of_ble_eq_true rfl, Nat.le_of_ble_eq_true rfl⟩) (hI.preV (k0 := 0) rfl rfl) rfl rfl hl.1 rfl (lv_room (Nat.le_of_ble_eq_true rfl)) dX3_install_7 (rm_bad (ex' := exInstall A S x name nb nm) (exR_s x7_2) ((by first | (simp only [exInstall, exF, inX, x2_1, x7_2, ↓reduceIte, Bool.false_eq_true, reduceCtorEq]; done) | simp [exInstall, exF, inX, x2_1, x7_2])))) hI hS (fun ce q9 H locs hI hS hce hcv hcl => ?_)
      exact r_out (by first | (simp only [exInstall, exF, inX, x2_1, x7_2, ↓reduceIte, Bool.false_eq_true, reduceCtorEq]; done) | simp [exInstall, exF, inX, x2_1, x7_2]) hS hout hlk hce hcv hcl
  · refine xb_v (E := xIOB) (exR_s x2_1) (vx_runV (As := [.int x]) (rest := []) ⟨hx, hb, hml, hown, hts⟩ (c_X3_requireMirror l hst D cy h0 q A S x nm hnm hcm) (cwV 1 hts gX3_install_X3_requireMirror rfl rfl rfl (by decide +kernel) ⟨Nat.le_of_ble_eq_true rfl, Nat.le_of_ble_eq_true rfl⟩) (hI.preV (k0 := 0) rfl rfl) rfl rfl hl.1 rfl (lv_room (Nat.le_of_ble_eq_true rfl)) dX3_install_2 (rm_bad (ex' := exInstall A S x name nb nm) (exR_s x2_1) ((by first | (simp only [exInstall, exF, inX, x2_1, ↓reduceIte, Bool.false_eq_true, reduceCtorEq]; done) | simp [exInstall, exF, inX, x2_1])))) hI hS (fun ce q9 H locs hI hS hce hcv hcl => ?_)
    exact r_out (by first | (simp only [exInstall, exF, inX, x2_1, ↓reduceIte, Bool.false_eq_true, reduceCtorEq]; done) | simp [exInstall, exF, inX, x2_1]) hS hout hlk hce hcv hcl

set_option maxHeartbeats 4000000 in
set_option maxRecDepth 100000 in
theorem c_X3_pass (l : Launch) (hst : l.stackTraces = false) (D : va_G) (cy : Nat → ClassId) (h0 : Nat) (q : Nat → Nat) (A : Nat → Nat → Int32) (S : Nat → Int32) (d : Int32) (nk : Nat) (hnk : nk ≤ 8) (hck : S 3 = nI nk) (nb : Nat) (hnb : nb ≤ 24) (hcb : S 5 = nI nb) (htn : ∀ b, b < nb → ∃ t, t < 5 ∧ A 5 b = nI t) : vx_Met l yX3_pass wsX3_pass (rmX (exPass S d) 6 110) (va_Pc [.ref (q 0), .int d] (pI D cy h0 (wX cy q A S))) (xwI (exPass S d) (bcF (tbF A nb &&& (tbF (psA A S d nk nb) nb ^^^ (-1)))) D cy h0 (wX cy q (psA A S d nk nb) (psS S d)) (qA 19 q)) (xx (exPass S d)) (c1 (exPass S d)) (c6 (exPass S d)) (qA 19 q) := by
  refine vx_ofW (cc := cX3_pass) (maxL := 3) (ret := (some .int)) (by decide) rfl ?_
  intro p e s m args below meth c s₁ B hml hout hv
  obtain ⟨rfl, hI⟩ := hv
  have hx := B.exec
  have hb := B.bytes
  have hr := B.returns
  have hts := atoms_spec (ws := wsX3_pass) B.pre
  have hown : s.vm.findClass RX3 = some m.cls := findClass_of_methodNamed B.named
  have hlk := B.notSynchronized
  have hI : IH D cy h0 (wX cy q A S) s s.heap := hI
  have hG := hI.1
  have hqA := hA_X hI
  have hh0 : h0 ≤ s.heap.size := hI.1.2.2.2
  have hS : va_S nof s.heap s.heap [] := va_S.rf
  have hi0 : ∀ w ∈ wsX00, w ∈ wsX3_pass := by decide +kernel
  have hi1 : ∀ w ∈ wsX10, w ∈ wsX3_pass := by decide +kernel
  have hi3 : ∀ w ∈ wsX30, w ∈ wsX3_pass := by decide +kernel
  have hl := lv_entry ([.ref (q 0), .int d]) (n := 3) (Nat.le_of_ble_eq_true rfl)
  rw [lg_entry_eq]
  generalize (lg_sl ([.ref (q 0), .int d]) ++ List.replicate (3 - (lg_sl ([.ref (q 0), .int d])).length) Slot.unset).toArray = ls at hl ⊢
  have hl : lv_has ls 3 [(0, .ref (q 0)), (1, .int d)] := hl
  refine lv_iload_n hx hb dX3_pass_0 rfl (lv_at hl 1 rfl) ?_
  refine lv_iconst (v := 1) hx hb dX3_pass_1 (by decide) ?_
  refine lv_icmp_lt (tgt := 23) hx hb dX3_pass_2 (by decide) (fun c2_1 => ?_) (fun c2_1 => ?_)
  · exact r_throw (text := "no such number of days") hx hb hst hown (by decide) (by decide) tg_IAE tb_IAE (hts (.classLink RX3 48 "java/lang/IllegalArgumentException") (List.mem_of_getElem? (i := 1) rfl)) (hts (.initialized "java/lang/IllegalArgumentException") (List.mem_of_getElem? (i := 2) rfl)) (fun w h => hts w (List.mem_cons_of_mem _ (List.mem_append_right _ h))) (by decide) hG hS (by rw [hml]; exact hl.1) (by first | (simp only [exPass, c2_1, ↓reduceIte, Bool.false_eq_true, reduceCtorEq]; done) | simp [exPass, c2_1]) dX3_pass_23 dX3_pass_26 dX3_pass_27 dX3_pass_29 dX3_pass_32 hout (Nat.le_of_ble_eq_true rfl) (Nat.le_of_ble_eq_true rfl) (Nat.le_refl _) (Nat.le_refl _) hlk
  · refine lv_iload_n hx hb dX3_pass_5 rfl (lv_at hl 1 rfl) ?_
    refine lv_bipush (v := 60) hx hb dX3_pass_6 (by decide) ?_
    refine lv_icmp_gt (tgt := 23) hx hb dX3_pass_8 (by decide) (fun c8_2 => ?_) (fun c8_2 => ?_)
    · exact r_throw (text := "no such number of days") hx hb hst hown (by decide) (by decide) tg_IAE tb_IAE (hts (.classLink RX3 48 "java/lang/IllegalArgumentException") (List.mem_of_getElem? (i := 1) rfl)) (hts (.initialized "java/lang/IllegalArgumentException") (List.mem_of_getElem? (i := 2) rfl)) (fun w h => hts w (List.mem_cons_of_mem _ (List.mem_append_right _ h))) (by decide) hG hS (by rw [hml]; exact hl.1) (by first | (simp only [exPass, c2_1, c8_2, ↓reduceIte, Bool.false_eq_true, reduceCtorEq]; done) | simp [exPass, c2_1, c8_2]) dX3_pass_23 dX3_pass_26 dX3_pass_27 dX3_pass_29 dX3_pass_32 hout (Nat.le_of_ble_eq_true rfl) (Nat.le_of_ble_eq_true rfl) (Nat.le_refl _) (Nat.le_refl _) hlk
    · refine lv_iload_n hx hb dX3_pass_11 rfl (lv_at hl 1 rfl) ?_
      refine lv_sipush (v := 999) hx hb dX3_pass_12 (by decide) ?_
      refine lv_aload_n hx hb dX3_pass_15 rfl (lv_at hl 0 rfl) ?_
      refine r_get (C := RX3) (T := TX3) (N := 7) (k := 6) (q0 := 0) (v := .int (S 1)) hx hb hts hi3 hown hI rfl rfl (by decide) (hts (.fieldLink RX3 41 "Buildlots" "today" "I") (List.mem_of_getElem? (i := 3) rfl)) rfl rfl dX3_pass_16 ?_
      refine lv_isub hx hb dX3_pass_19 ?_
      refine lv_icmp_le (tgt := 33) hx hb dX3_pass_20 (by decide) (fun c20_3 => ?_) (fun c20_3 => ?_)
      · refine lv_aload_n hx hb dX3_pass_33 rfl (lv_at hl 0 rfl) ?_
        refine ro_i (va_runV (As := []) (rest := []) ⟨hx, hb, hml, hown, hts⟩ (c_X3_trustedBuilds l D cy h0 q A S nb hnb hcb htn) (cwV 0 hts gX3_pass_X3_trustedBuilds rfl rfl rfl (by decide +kernel) ⟨Nat.le_of_ble_eq_true rfl, Nat.le_of_ble_eq_true rfl⟩) (hI.preV (k0 := 0) rfl rfl) rfl rfl hl.1 rfl (lv_room (Nat.le_of_ble_eq_true rfl)) dX3_pass_34 ⟨Nat.le_of_ble_eq_true rfl, Nat.le_of_ble_eq_true rfl⟩) hI hS (fun H locs hI hS => ?_)
        refine lv_istore_n (lv' := [(2, .int (tbF A nb)), (0, .ref (q 0)), (1, .int d)]) hx hb dX3_pass_37 rfl hl (by decide) rfl (fun ls hl => ?_)
        refine lv_aload_n hx hb dX3_pass_38 rfl (lv_at hl 1 rfl) ?_
        refine lv_dup hx hb dX3_pass_39 rfl ?_
        refine r_get (C := RX3) (T := TX3) (N := 7) (k := 6) (q0 := 0) (v := .int (S 1)) hx hb hts hi3 hown hI rfl rfl (by decide) (hts (.fieldLink RX3 41 "Buildlots" "today" "I") (List.mem_of_getElem? (i := 3) rfl)) rfl rfl dX3_pass_40 ?_
        refine lv_iload_n hx hb dX3_pass_43 rfl (lv_at hl 2 rfl) ?_
        refine lv_iadd hx hb dX3_pass_44 ?_
        have hS := hS.mono (B := qA 19 q) (fun _ h => h.elim)
        refine r_put (w' := wX cy q A (uS S 1 ((S 1) + d))) (C := RX3) (T := TX3) (N := 7) (k := 6) (q0 := 0) (ty := .int) (v := .int ((S 1) + d)) hx hb hts hi3 tyX3_ok nmX3 hown hI hS hqA hh0 (qA_X hI) rfl rfl (by decide) (hts (.fieldLink RX3 41 "Buildlots" "today" "I") (List.mem_of_getElem? (i := 3) rfl)) rfl rfl (by decide +kernel) rfl rfl (Nat.le_of_ble_eq_true rfl) dX3_pass_45 rfl (fun H locs hI hS => ?_)
        refine lv_aload_n hx hb dX3_pass_48 rfl (lv_at hl 1 rfl) ?_
        refine r_get (C := RX3) (T := TX3) (N := 7) (k := 1) (q0 := 0) (v := .ref (q 2)) hx hb hts hi3 hown hI rfl rfl (by decide) (hts (.fieldLink RX3 19 "Buildlots" "builds" "LBuildlots$Builds;") (List.mem_of_getElem? (i := 4) rfl)) rfl rfl dX3_pass_49 ?_
        refine lv_aload_n hx hb dX3_pass_52 rfl (lv_at hl 1 rfl) ?_
        refine r_get (C := RX3) (T := TX3) (N := 7) (k := 0) (q0 := 0) (v := .ref (q 1)) hx hb hts hi3 hown hI rfl rfl (by decide) (hts (.fieldLink RX3 10 "Buildlots" "keys" "LBuildlots$Keys;") (List.mem_of_getElem? (i := 5) rfl)) rfl rfl dX3_pass_53 ?_
        refine lv_aload_n hx hb dX3_pass_56 rfl (lv_at hl 1 rfl) ?_
        refine r_get (C := RX3) (T := TX3) (N := 7) (k := 6) (q0 := 0) (v := .int ((S 1) + d)) hx hb hts hi3 hown hI rfl rfl (by decide) (hts (.fieldLink RX3 41 "Buildlots" "today" "I") (List.mem_of_getElem? (i := 3) rfl)) rfl rfl dX3_pass_57 ?_
        refine rw_v (w' := wX cy q (uA A 10 (kvF A (uS S 1 ((S 1) + d)) ((S 1) + d) nk nb)) (uS S 1 ((S 1) + d))) (va_runVN (As := [.ref (q 1), .int ((S 1) + d)]) (rest := []) ⟨hx, hb, hml, hown, hts⟩ (c_X0_keepVouchers l D cy h0 q A (uS S 1 ((S 1) + d)) ((S 1) + d) nk hnk hck nb hnb hcb) ⟨va_cnB (host := RX3) 2 hts gX3_pass_X0_keepVouchers_n87 rfl rfl rfl (hG.1.2.1 (RX3, 87, yX0_keepVouchers) (List.mem_of_getElem? (i := 4) rfl)) (hts (.initialized RX0) (List.mem_of_getElem? (i := 29) rfl)) (by decide +kernel) ⟨Nat.le_of_ble_eq_true rfl, Nat.le_of_ble_eq_true rfl⟩, (hts (.instanceMethod yX0_keepVouchers) (List.mem_of_getElem? (i := 28) rfl)), (hts (.selects RX0 yX0_keepVouchers yX0_keepVouchers) (List.mem_of_getElem? (i := 30) rfl))⟩ (hI.preV (k0 := 2) rfl rfl) rfl rfl hl.1 rfl (lv_room (Nat.le_of_ble_eq_true rfl)) dX3_pass_60 ⟨Nat.le_of_ble_eq_true rfl, Nat.le_of_ble_eq_true rfl⟩) hI hS (fun _ h => h) hqA (fun H locs hI hS => ?_)
        refine lv_iload_n hx hb dX3_pass_63 rfl (lv_at hl 0 rfl) ?_
        refine lv_aload_n hx hb dX3_pass_64 rfl (lv_at hl 1 rfl) ?_
        refine ro_i (va_runV (As := []) (rest := [.int (tbF A nb)]) ⟨hx, hb, hml, hown, hts⟩ (c_X3_trustedBuilds l D cy h0 q (uA A 10 (kvF A (uS S 1 ((S 1) + d)) ((S 1) + d) nk nb)) (uS S 1 ((S 1) + d)) nb hnb hcb htn) (cwV 0 hts gX3_pass_X3_trustedBuilds rfl rfl rfl (by decide +kernel) ⟨Nat.le_of_ble_eq_true rfl, Nat.le_of_ble_eq_true rfl⟩) (hI.preV (k0 := 0) rfl rfl) rfl rfl hl.1 rfl (lv_room (Nat.le_of_ble_eq_true rfl)) dX3_pass_65 ⟨Nat.le_of_ble_eq_true rfl, Nat.le_of_ble_eq_true rfl⟩) hI hS (fun H locs hI hS => ?_)
        refine lv_iconst (v := (-1)) hx hb dX3_pass_68 (by decide) ?_
        refine lv_ixor hx hb dX3_pass_69 ?_
        refine lv_iand hx hb dX3_pass_70 ?_
        refine ro_i (va_runS (As := [.int ((tbF A nb) &&& ((tbF (uA A 10 (kvF A (uS S 1 ((S 1) + d)) ((S 1) + d) nk nb)) nb) ^^^ (-1)))]) (rest := []) ⟨hx, hb, hml, hown, hts⟩ (c_J6_bitCount_0f7a4 l ((tbF A nb) &&& ((tbF (uA A 10 (kvF A (uS S 1 ((S 1) + d)) ((S 1) + d) nk nb)) nb) ^^^ (-1)))) (va_cwS 1 hts gX3_pass_J6_bitCount_0f7a4 rfl rfl rfl (by decide +kernel) ⟨Nat.le_of_ble_eq_true rfl, Nat.le_of_ble_eq_true rfl⟩) preT rfl rfl hl.1 rfl (lv_room (Nat.le_of_ble_eq_true rfl)) dX3_pass_71 ⟨Nat.le_of_ble_eq_true rfl, Nat.le_of_ble_eq_true rfl⟩) hI hS (fun H locs hI hS => ?_)
        rw [show wX cy q (uA A 10 (kvF A (uS S 1 ((S 1) + d)) ((S 1) + d) nk nb)) (uS S 1 ((S 1) + d)) = wX cy q (psA A S d nk nb) (psS S d) from rfl] at hI
        exact end_xwi hx hb hr (by first | (simp only [exPass, c2_1, c8_2, c20_3, ↓reduceIte, Bool.false_eq_true, reduceCtorEq]; done) | simp [exPass, c2_1, c8_2, c20_3]) rfl hI hS dX3_pass_74 hlk
      · exact r_throw (text := "no such number of days") hx hb hst hown (by decide) (by decide) tg_IAE tb_IAE (hts (.classLink RX3 48 "java/lang/IllegalArgumentException") (List.mem_of_getElem? (i := 1) rfl)) (hts (.initialized "java/lang/IllegalArgumentException") (List.mem_of_getElem? (i := 2) rfl)) (fun w h => hts w (List.mem_cons_of_mem _ (List.mem_append_right _ h))) (by decide) hG hS (by rw [hml]; exact hl.1) (by first | (simp only [exPass, c2_1, c8_2, c20_3, ↓reduceIte, Bool.false_eq_true, reduceCtorEq]; done) | simp [exPass, c2_1, c8_2, c20_3]) dX3_pass_23 dX3_pass_26 dX3_pass_27 dX3_pass_29 dX3_pass_32 hout (Nat.le_of_ble_eq_true rfl) (Nat.le_of_ble_eq_true rfl) (Nat.le_refl _) (Nat.le_refl _) hlk

set_option maxHeartbeats 4000000 in
set_option maxRecDepth 100000 in
theorem c_X3_day (l : Launch) (D : va_G) (cy : Nat → ClassId) (h0 : Nat) (q : Nat → Nat) (A : Nat → Nat → Int32) (S : Nat → Int32) : Met l yX3_day wsX3_day (rmO 1 0) (va_Pc [.ref (q 0)] (pI D cy h0 (wX cy q A S))) (roI (S 1)) 0 0 nof := by
  refine Met.ofW (cc := cX3_day) (maxL := 1) (ret := (some .int)) (by decide) rfl ?_
  intro p e s m args below meth c s₁ B hml hv
  obtain ⟨rfl, hI⟩ := hv
  have hx := B.exec
  have hb := B.bytes
  have hr := B.returns
  have hts := atoms_spec (ws := wsX3_day) B.pre
  have hown : s.vm.findClass RX3 = some m.cls := findClass_of_methodNamed B.named
  have hlk := B.notSynchronized
  have hI : IH D cy h0 (wX cy q A S) s s.heap := hI
  have hG := hI.1
  have hS : va_S nof s.heap s.heap [] := va_S.rf
  have hi3 : ∀ w ∈ wsX30, w ∈ wsX3_day := by decide +kernel
  have hl := lv_entry ([.ref (q 0)]) (n := 1) (Nat.le_of_ble_eq_true rfl)
  rw [lg_entry_eq]
  generalize (lg_sl ([.ref (q 0)]) ++ List.replicate (1 - (lg_sl ([.ref (q 0)])).length) Slot.unset).toArray = ls at hl ⊢
  have hl : lv_has ls 1 [(0, .ref (q 0))] := hl
  refine lv_aload_n hx hb dX3_day_0 rfl (lv_at hl 0 rfl) ?_
  refine r_get (C := RX3) (T := TX3) (N := 7) (k := 6) (q0 := 0) (v := .int (S 1)) hx hb hts hi3 hown hI rfl rfl (by decide) (hts (.fieldLink RX3 41 "Buildlots" "today" "I") (List.mem_of_getElem? (i := 1) rfl)) rfl rfl dX3_day_1 ?_
  exact end_roi hx hb hr rfl hS dX3_day_4 hlk

