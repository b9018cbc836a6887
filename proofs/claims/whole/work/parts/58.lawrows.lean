/-! Rows for the law's walk: a call of a helper over the left part of the world, of the model over the right part, rows of one long and one double, the script's reads, and what follows each pair of calls. -/
section LAWROWS
variable {p : Program} {l : Launch} {e : Env} {R : Room} {s : State} {m : MethodId} {args : Array Value} {below : List Frame} {meth : Method} {c : Code} {H H1 : Heap} {locs : List Loc} {cells slots mc ms : Nat} {Q : State → Prop}
variable {cc : ByteArray} {pc : Nat} {ls : Array Slot} {rest st0 : List Value} {D : va_G} {cy : Nat → ClassId} {h0 : Nat} {w w' w1 w2 w1' w2' : va_W} {A0 A1 : Nat → Prop} {H0 : Heap} {a : Array Value}
theorem r_newG {atype : ArrayType} {ty : FieldType} {t0 : Nat} {a0 : vp_A} (hexec : p.tables.exec = Jvm.exec) (hb : c.code = cc) (harr : (Cond.arrayClass (newarray.typeOf atype)).before args s = true) (hty : newarray.typeOf atype = ty) (hI : IH D cy h0 w s H) (hS : va_S (fm h0) H0 H locs) (hh : h0 ≤ H0.size) (ht : (tyL cy)[t0]? = some (cy t0, ty)) (hR : ∀ (U : State) (c : ClassId), va_RA U c ty = (U.vm.findClass ("[" ++ ty.toString) = some c))
    {n : Int32} {N : Nat} (hz : ∀ cA : ClassId, vp_cell cA a0 = arrV cA N (fun _ => defaultValue ty)) (hn : ¬ n < 0) (hN : n.toNatClampNeg = N) (hbytes : N * componentBytes ty ≤ 536870912) (hcells : cells + 1 ≤ R.cells) (hslots : slots + N ≤ R.slots) (hdg : decode cc pc = .ok (.newarray atype, 2))
    (kk : ∀ (q : Nat) (H1 : Heap), IH D cy h0 (w ++ [(q, .inl (cy t0, a0))]) s H1 → va_S (fm h0) H0 H1 locs → W p l e R s m args below meth c H1 locs (cells + 1) (slots + N) Q (F0 m (pc + 2) ls (.ref q :: rest))) : W p l e R s m args below meth c H locs cells slots Q (F0 m pc ls (.int n :: rest)) := by
  refine va_newa hexec hb harr hty hI.1.2.2.1 hI.2.1 hI.2.2 hS (fun q hq => Nat.le_trans hh hq) hz hn hN hbytes hcells hslots hdg (fun q cA H1 hK hP hD hS1 => ?_)
  obtain rfl : cA = cy t0 := k_uniq hK ht hR
  exact kk q H1 ⟨hI.1.put hS hS1 (fun _ h => h) hh, hP, hD⟩ hS1
/-- a helper's call: the left part of the world is its own -/
theorem wl_i {v : Int32} (hr : va_Run p l e R s m args below meth c H locs cells slots mc ms (F0 m pc ls st0) rest (rwI v D cy h0 w1' A1 a) A1) (hI : IH D cy h0 (w1 ++ w2) s H) (hS : va_S (fm h0) H0 H locs) (he : w1.map (·.1) = w1'.map (·.1)) (hin : inW A1 w1)
    (kk : ∀ (H1 : Heap) (locs1 : List Loc), IH D cy h0 (w1' ++ w2) s H1 → va_S (fm h0) H0 H1 locs1 → W p l e R s m args below meth c H1 locs1 (cells + mc) (slots + ms) Q (F0 m (pc + 3) ls (.int v :: rest))) : W p l e R s m args below meth c H locs cells slots Q (F0 m pc ls st0) :=
  va_calli hr hS (fun q _ h => hI.geL hin q h) (fun q h => hI.geL hin q h) (fun r u t H1 locs1 ht hvm hw hB hz1 hk1 hS1 => by
    subst hw
    have hB' : IH D cy h0 w1' t t.heap := hB
    rw [ht] at hB'
    exact kk H1 locs1 (hI.joinL he hin hB' hz1 hk1) hS1)
/-- the model's: the right part -/
theorem wr_i {v : Int32} (hr : va_Run p l e R s m args below meth c H locs cells slots 0 0 (F0 m pc ls st0) rest (rwI v D cy h0 w2' A1 a) A1) (hI : IH D cy h0 (w1 ++ w2) s H) (hS : va_S (fm h0) H0 H locs) (he : w2.map (·.1) = w2'.map (·.1)) (hin : inW A1 w2)
    (kk : ∀ (H1 : Heap) (locs1 : List Loc), IH D cy h0 (w1 ++ w2') s H1 → va_S (fm h0) H0 H1 locs1 → W p l e R s m args below meth c H1 locs1 cells slots Q (F0 m (pc + 3) ls (.int v :: rest))) : W p l e R s m args below meth c H locs cells slots Q (F0 m pc ls st0) :=
  va_calli hr hS (fun q _ h => hI.geR hin q h) (fun q h => hI.geR hin q h) (fun r u t H1 locs1 ht hvm hw hB hz1 hk1 hS1 => by
    subst hw
    have hB' : IH D cy h0 w2' t t.heap := hB
    rw [ht] at hB'
    exact kk H1 locs1 (hI.joinR he hin hB' hz1 hk1) hS1)
theorem wr_l {v : Int64} (hr : va_Run p l e R s m args below meth c H locs cells slots 0 0 (F0 m pc ls st0) rest (rwL v D cy h0 w2' A1 a) A1) (hI : IH D cy h0 (w1 ++ w2) s H) (hS : va_S (fm h0) H0 H locs) (he : w2.map (·.1) = w2'.map (·.1)) (hin : inW A1 w2)
    (kk : ∀ (H1 : Heap) (locs1 : List Loc), IH D cy h0 (w1 ++ w2') s H1 → va_S (fm h0) H0 H1 locs1 → W p l e R s m args below meth c H1 locs1 cells slots Q (F0 m (pc + 3) ls (.long v :: rest))) : W p l e R s m args below meth c H locs cells slots Q (F0 m pc ls st0) :=
  va_calll hr hS (fun q _ h => hI.geR hin q h) (fun q h => hI.geR hin q h) (fun r u t H1 locs1 ht hvm hw hB hz1 hk1 hS1 => by
    subst hw
    have hB' : IH D cy h0 w2' t t.heap := hB
    rw [ht] at hB'
    exact kk H1 locs1 (hI.joinR he hin hB' hz1 hk1) hS1)
theorem wr_f {v : UInt32} (hr : va_Run p l e R s m args below meth c H locs cells slots 0 0 (F0 m pc ls st0) rest (rwF v D cy h0 w2' A1 a) A1) (hI : IH D cy h0 (w1 ++ w2) s H) (hS : va_S (fm h0) H0 H locs) (he : w2.map (·.1) = w2'.map (·.1)) (hin : inW A1 w2)
    (kk : ∀ (H1 : Heap) (locs1 : List Loc), IH D cy h0 (w1 ++ w2') s H1 → va_S (fm h0) H0 H1 locs1 → W p l e R s m args below meth c H1 locs1 cells slots Q (F0 m (pc + 3) ls (.float v :: rest))) : W p l e R s m args below meth c H locs cells slots Q (F0 m pc ls st0) :=
  va_callf hr hS (fun q _ h => hI.geR hin q h) (fun q h => hI.geR hin q h) (fun r u t H1 locs1 ht hvm hw hB hz1 hk1 hS1 => by
    subst hw
    have hB' : IH D cy h0 w2' t t.heap := hB
    rw [ht] at hB'
    exact kk H1 locs1 (hI.joinR he hin hB' hz1 hk1) hS1)
theorem c1_le : ∀ ex : Option String, c1 ex ≤ 1
  | none => Nat.zero_le _
  | some _ => Nat.le_refl _
theorem c6_le : ∀ ex : Option String, c6 ex ≤ 6
  | none => Nat.zero_le _
  | some _ => Nat.le_refl _
theorem wO_ite {P : Prop} [Decidable P] {q : Nat → Nat} {A Aa Ab : Nat → Nat → Int32} {S Sa Sb : Nat → Int32} {f fa fb : Nat → Int64} {g ga gb : Nat → UInt64} : (wO cy q A S f g).map (·.1) = (if P then wO cy q Aa Sa fa ga else wO cy q Ab Sb fb gb).map (·.1) := by
  split <;> rfl
/-- the script, and what of it a round reads -/
def lwS (b L : Nat) (xs : Nat → Int32) (s : State) (i : Int32) : Prop := va_X b L xs s s.heap ∧ b < s.heap.size ∧ vp_in i L ∧ vp_in (i + 1) L ∧ vp_in (i + 2) L ∧ vp_in (i + 3) L
/-- the law's locals at a round's start -/
def lc (b : Nat) (q q' : Nat → Nat) (i : Int32) : List (Nat × Value) := [(5, .int i), (0, .ref b), (1, .ref (q 0)), (2, .ref (q' 0)), (3, .ref (q 19)), (4, .ref (q 20))]
def inv (s : State) (D : va_G) (cy : Nat → ClassId) (q q' : Nat → Nat) (b : Nat) (i : Int32) (H : Heap) (locs : List Loc) (ls : Array Slot) : Prop := ∃ (nk nb nm : Nat) (A : Nat → Nat → Int32) (S : Nat → Int32) (B : Nat → Nat → Int32) (T : Nat → Int32) (f : Nat → Int64) (g : Nat → UInt64), RR nk nb nm A S B T ∧ IH D cy s.heap.size (wO cy q A S f g ++ wM cy q' B T) s H ∧ va_S (fm s.heap.size) s.heap H locs ∧ lv_has ls 8 (lc b q q' i)
theorem inv_mk {q q' : Nat → Nat} {b : Nat} {i : Int32} {nk nb nm : Nat} {A B : Nat → Nat → Int32} {S T : Nat → Int32} {f : Nat → Int64} {g : Nat → UInt64} (hI : IH D cy s.heap.size (wO cy q A S f g ++ wM cy q' B T) s H) (hS : va_S (fm s.heap.size) s.heap H locs) (hl : lv_has ls 8 (lc b q q' i)) (hR : RR nk nb nm A S B T) : inv s D cy q q' b i H locs ls := ⟨nk, nb, nm, A, S, B, T, f, g, hR, hI, hS, hl⟩
section ARG
variable {b L : Nat} {xs : Nat → Int32} {i : Int32} {q q' : Nat → Nat} {lv : List (Nat × Value)}
theorem fm_b (hb : b < s.heap.size) : ¬ fm s.heap.size b := Nat.not_le.mpr hb
theorem r_arg {Ts : List Cond} {n : Int} {v : Int32} (C : CallFix p m c cc 8 s args Ts RL) (hX : lwS b L xs s i) (hS : va_S (fm s.heap.size) s.heap H locs) (h5 : ls[5]? = some (.val (.int i))) (h0 : ls[0]? = some (.val (.ref b))) (hv : Int32.ofInt n = v) (hin : vp_in (i + v) L)
    (d0 : decode cc pc = .ok (.aload_n 0, 1)) (d1 : decode cc (pc + 1) = .ok (.iload 5, 2)) (d3 : decode cc (pc + 3) = .ok (.iconst n, 1)) (d4 : decode cc (pc + 4) = .ok (.iadd, 1)) (d5 : decode cc (pc + 5) = .ok (.iaload, 1))
    (kk : W p l e R s m args below meth c H locs cells slots Q (F0 m (pc + 6) ls (.int (xs (i + v).toNatClampNeg) :: rest))) : W p l e R s m args below meth c H locs cells slots Q (F0 m pc ls rest) := by
  obtain ⟨hx, hb, -⟩ := C
  refine lv_aload_n hx hb d0 rfl h0 ?_
  refine lv_iload hx hb d1 h5 ?_
  refine lv_iconst hx hb d3 hv ?_
  refine lv_iadd hx hb d4 ?_
  exact va_sld hx hb hX.1 hX.2.1 (fm_b hX.2.1) hS hin d5 kk
variable {L9 : List String} {ex : Option String} {mcd v vm : Int32} {good : Prop} {B1 : Nat → Nat → Int32} {T1 : Nat → Int32}
/-- m.thrown() and its compare with the helper's code -/
theorem tail_t {rt : va_W} (C : CallFix p m c cL_law 8 s args wsL_law RL) (hts : ∀ w ∈ wsL_law, w.before args s = true) (hI : IH D cy s.heap.size (rt ++ wM cy q' B1 T1) s H) (hS : va_S (fm s.heap.size) s.heap H locs) (hT : T1 5 = mcd) (h2 : ls[2]? = some (.val (.ref (q' 0)))) (h6 : ls[6]? = some (.val (.int (cd L9 ex)))) (hsz : ls.size = 8) (hcs : cells ≤ 1089) (hss : slots ≤ 8871) (h : stp L9 ex mcd good)
    (d0 : decode cL_law pc = .ok (.aload_n 2, 1)) (d1 : decode cL_law (pc + 1) = .ok (.invokevirtual 126, 3)) (d4 : decode cL_law (pc + 4) = .ok (.iload 6, 2)) (d6 : decode cL_law (pc + 6) = .ok (.if_icmp .eq 5, 3)) {off : Int} {tgt : Nat} (d11 : decode cL_law (pc + 11) = .ok (.iload 6, 2)) (d13 : decode cL_law (pc + 13) = .ok (.ifCond .ne off, 3)) (ht : ((pc + 13 : Nat) : Int) + off = (tgt : Int))
    (kv : ex = none → mcd = 0 → good → ∀ (H : Heap) (locs : List Loc), IH D cy s.heap.size (rt ++ wM cy q' B1 T1) s H → va_S (fm s.heap.size) s.heap H locs → W p l e room_1 s m args below meth c H locs cells slots Q (F0 m (pc + 16) ls []))
    (kx : ∀ (H : Heap) (locs : List Loc), IH D cy s.heap.size (rt ++ wM cy q' B1 T1) s H → va_S (fm s.heap.size) s.heap H locs → W p l e room_1 s m args below meth c H locs cells slots Q (F0 m tgt ls [])) : W p l e room_1 s m args below meth c H locs cells slots Q (F0 m pc ls []) := by
  have hx := C.1
  have hb := C.2.1
  have hcd : cd L9 ex = mcd := by
    rcases h with ⟨hex, hm, -⟩ | ⟨E, hex, hm, -⟩
    · rw [hex, hm]; rfl
    · rw [hex, hm]
  refine lv_aload_n hx hb d0 rfl h2 ?_
  refine ro_i (va_runV (As := []) (rest := []) C (c_X4_thrown l D cy s.heap.size q' B1 T1) (cwV 0 hts gL_law_X4_thrown rfl rfl rfl (by decide +kernel) ⟨Nat.le_of_ble_eq_true rfl, Nat.le_of_ble_eq_true rfl⟩) ((IH.right hI).preV (k0 := 0) rfl rfl) rfl rfl hsz rfl (lv_room (Nat.le_of_ble_eq_true rfl)) d1 ⟨hcs, hss⟩) hI hS (fun H locs hI hS => ?_)
  refine lv_iload hx hb d4 h6 ?_
  refine lv_icmp_eq hx hb (tgt := pc + 11) d6 (by omega) (fun _ => ?_) (fun hne => absurd (hT.trans hcd.symm) hne)
  refine lv_iload hx hb d11 h6 ?_
  refine lv_if_ne hx hb (tgt := tgt) d13 ht (fun _ => kx H locs hI hS) (fun hz => ?_)
  rcases h with ⟨hex, hm, hg⟩ | ⟨E, hex, hm, hn⟩
  · exact kv hex hm hg H locs hI hS
  · exact absurd (hcd.symm.trans hz) hn
/-- ints: the long cell against the model's answer -/
theorem tail_i {rt : va_W} (C : CallFix p m c cL_law 8 s args wsL_law RL) (hts : ∀ w ∈ wsL_law, w.before args s = true) (hI : IH D cy s.heap.size (rt ++ wM cy q' B1 T1) s H) (hS : va_S (fm s.heap.size) s.heap H locs) (hT : T1 5 = mcd) (hl : lv_has ls 8 ((7, .int vm) :: (6, .int (cd L9 ex)) :: lc b q q' i)) (hcs : cells ≤ 1089) (hss : slots ≤ 8871) (h : stp L9 ex mcd good)
    (hv : ex = none → mcd = 0 → good → vm = v) {A2 : Nat → Nat → Int32} {S2 : Nat → Int32} {f : Nat → Int64} {g : Nat → UInt64} (hw : ex = none → rt = wO cy q A2 S2 (vp_updL f 0 v.toInt64) g)
    (d0 : decode cL_law pc = .ok (.aload_n 2, 1)) (d1 : decode cL_law (pc + 1) = .ok (.invokevirtual 126, 3)) (d4 : decode cL_law (pc + 4) = .ok (.iload 6, 2)) (d6 : decode cL_law (pc + 6) = .ok (.if_icmp .eq 5, 3)) (d11 : decode cL_law (pc + 11) = .ok (.iload 6, 2)) (d13 : decode cL_law (pc + 13) = .ok (.ifCond .ne 15, 3))
    (d16 : decode cL_law (pc + 16) = .ok (.aload_n 3, 1)) (d17 : decode cL_law (pc + 17) = .ok (.iconst 0, 1)) (d18 : decode cL_law (pc + 18) = .ok (.laload, 1)) (d19 : decode cL_law (pc + 19) = .ok (.iload 7, 2)) (d21 : decode cL_law (pc + 21) = .ok (.i2l, 1)) (d22 : decode cL_law (pc + 22) = .ok (.lcmp, 1)) (d23 : decode cL_law (pc + 23) = .ok (.ifCond .eq 5, 3)) {off : Int} (d28 : decode cL_law (pc + 28) = .ok (.goto off, 3)) (ht : ((pc + 28 : Nat) : Int) + off = 2139)
    (kk : ∀ (H : Heap) (locs : List Loc) (ls : Array Slot), IH D cy s.heap.size (rt ++ wM cy q' B1 T1) s H → va_S (fm s.heap.size) s.heap H locs → lv_has ls 8 (lc b q q' i) → W p l e room_1 s m args below meth c H locs cells slots Q (F0 m 2139 ls [])) : W p l e room_1 s m args below meth c H locs cells slots Q (F0 m pc ls []) := by
  have hx := C.1
  have hb := C.2.1
  have hl0 : lv_has ls 8 (lc b q q' i) := lv_sub hl [2, 3, 4, 5, 6, 7] rfl
  have hend : ∀ (H : Heap) (locs : List Loc), IH D cy s.heap.size (rt ++ wM cy q' B1 T1) s H → va_S (fm s.heap.size) s.heap H locs → W p l e room_1 s m args below meth c H locs cells slots Q (F0 m (pc + 28) ls []) := fun H locs hI hS =>
    lv_goto (tgt := 2139) hx hb d28 ht (kk H locs ls hI hS hl0)
  refine tail_t C hts hI hS hT (lv_at hl 5 rfl) (lv_at hl 1 rfl) hl.1 hcs hss h d0 d1 d4 d6 (tgt := pc + 28) d11 d13 (by omega) (fun hex hm hg H locs hI hS => ?_) hend
  obtain rfl := hv hex hm hg
  have hrt := hw hex
  subst hrt
  refine lv_aload_n hx hb d16 rfl (lv_at hl 6 rfl) ?_
  refine lv_iconst (v := 0) hx hb d17 (by decide) ?_
  refine va_lald hx hb hI.1.2.2.1 hI.2.1 19 2 rfl rfl (show vp_in (nI 0) 1 from vp_in_nI (by decide) (by decide)) d18 ?_
  refine lv_iload hx hb d19 (lv_at hl 0 rfl) ?_
  refine lv_i2l hx hb d21 rfl ?_
  refine W.lcmp hx hb d22 ?_
  refine lv_if_eq hx hb (tgt := pc + 28) d23 (by omega) (fun _ => hend H locs hI hS) (fun hz => absurd ?_ hz)
  show lg_cmp (vm.toInt64) (vm.toInt64) = 0
  simp [lg_cmp, Int64.lt_irrefl]
/-- booleans -/
theorem tail_b {rt : va_W} (C : CallFix p m c cL_law 8 s args wsL_law RL) (hts : ∀ w ∈ wsL_law, w.before args s = true) (hI : IH D cy s.heap.size (rt ++ wM cy q' B1 T1) s H) (hS : va_S (fm s.heap.size) s.heap H locs) (hT : T1 5 = mcd) (hl : lv_has ls 8 ((7, .int vm) :: (6, .int (cd L9 ex)) :: lc b q q' i)) (hcs : cells ≤ 1089) (hss : slots ≤ 8871) (h : stp L9 ex mcd good)
    (hv : ex = none → mcd = 0 → good → vm = v) (h01 : v = 0 ∨ v = 1) {A2 : Nat → Nat → Int32} {S2 : Nat → Int32} {f : Nat → Int64} {g : Nat → UInt64} (hw : ex = none → rt = wO cy q A2 S2 (vp_updL f 0 v.toInt64) g)
    (d0 : decode cL_law pc = .ok (.aload_n 2, 1)) (d1 : decode cL_law (pc + 1) = .ok (.invokevirtual 126, 3)) (d4 : decode cL_law (pc + 4) = .ok (.iload 6, 2)) (d6 : decode cL_law (pc + 6) = .ok (.if_icmp .eq 5, 3)) (d11 : decode cL_law (pc + 11) = .ok (.iload 6, 2)) (d13 : decode cL_law (pc + 13) = .ok (.ifCond .ne 22, 3))
    (d16 : decode cL_law (pc + 16) = .ok (.aload_n 3, 1)) (d17 : decode cL_law (pc + 17) = .ok (.iconst 0, 1)) (d18 : decode cL_law (pc + 18) = .ok (.laload, 1)) (d19 : decode cL_law (pc + 19) = .ok (.iload 7, 2)) (d21 : decode cL_law (pc + 21) = .ok (.ifCond .eq 7, 3)) (d24 : decode cL_law (pc + 24) = .ok (.lconst 1, 1)) (d25 : decode cL_law (pc + 25) = .ok (.goto 4, 3)) (d28 : decode cL_law (pc + 28) = .ok (.lconst 0, 1)) (d29 : decode cL_law (pc + 29) = .ok (.lcmp, 1)) (d30 : decode cL_law (pc + 30) = .ok (.ifCond .eq 5, 3)) {off : Int} (d35 : decode cL_law (pc + 35) = .ok (.goto off, 3)) (ht : ((pc + 35 : Nat) : Int) + off = 2139)
    (kk : ∀ (H : Heap) (locs : List Loc) (ls : Array Slot), IH D cy s.heap.size (rt ++ wM cy q' B1 T1) s H → va_S (fm s.heap.size) s.heap H locs → lv_has ls 8 (lc b q q' i) → W p l e room_1 s m args below meth c H locs cells slots Q (F0 m 2139 ls [])) : W p l e room_1 s m args below meth c H locs cells slots Q (F0 m pc ls []) := by
  have hx := C.1
  have hb := C.2.1
  have hl0 : lv_has ls 8 (lc b q q' i) := lv_sub hl [2, 3, 4, 5, 6, 7] rfl
  have hend : ∀ (H : Heap) (locs : List Loc), IH D cy s.heap.size (rt ++ wM cy q' B1 T1) s H → va_S (fm s.heap.size) s.heap H locs → W p l e room_1 s m args below meth c H locs cells slots Q (F0 m (pc + 35) ls []) := fun H locs hI hS =>
    lv_goto (tgt := 2139) hx hb d35 ht (kk H locs ls hI hS hl0)
  refine tail_t C hts hI hS hT (lv_at hl 5 rfl) (lv_at hl 1 rfl) hl.1 hcs hss h d0 d1 d4 d6 (tgt := pc + 35) d11 d13 (by omega) (fun hex hm hg H locs hI hS => ?_) hend
  obtain rfl := hv hex hm hg
  have hrt := hw hex
  subst hrt
  refine lv_aload_n hx hb d16 rfl (lv_at hl 6 rfl) ?_
  refine lv_iconst (v := 0) hx hb d17 (by decide) ?_
  refine va_lald hx hb hI.1.2.2.1 hI.2.1 19 2 rfl rfl (show vp_in (nI 0) 1 from vp_in_nI (by decide) (by decide)) d18 ?_
  refine lv_iload hx hb d19 (lv_at hl 0 rfl) ?_
  refine lv_if_eq hx hb (tgt := pc + 28) d21 (by omega) (fun hz => ?_) (fun hz => ?_)
  · refine lv_lconst (v := 0) hx hb d28 (by decide) ?_
    refine W.lcmp hx hb d29 ?_
    refine lv_if_eq hx hb (tgt := pc + 35) d30 (by omega) (fun _ => hend H locs hI hS) (fun hz9 => absurd ?_ hz9)
    show lg_cmp (vm.toInt64) 0 = 0
    rw [hz]; decide
  · have h1 : vm = 1 := h01.resolve_left hz
    refine lv_lconst (v := 1) hx hb d24 (by decide) ?_
    refine lv_goto (tgt := pc + 29) hx hb d25 (by omega) ?_
    refine W.lcmp hx hb d29 ?_
    refine lv_if_eq hx hb (tgt := pc + 35) d30 (by omega) (fun _ => hend H locs hI hS) (fun hz9 => absurd ?_ hz9)
    show lg_cmp (vm.toInt64) 1 = 0
    rw [h1]; decide
/-- floats, widened -/
theorem tail_f {x y : UInt32} {rt : va_W} (C : CallFix p m c cL_law 8 s args wsL_law RL) (hts : ∀ w ∈ wsL_law, w.before args s = true) (hI : IH D cy s.heap.size (rt ++ wM cy q' B1 T1) s H) (hS : va_S (fm s.heap.size) s.heap H locs) (hT : T1 5 = mcd) (hl : lv_has ls 8 ((7, .float y) :: (6, .int (cd L9 ex)) :: lc b q q' i)) (hcs : cells ≤ 1089) (hss : slots ≤ 8871) (h : stp L9 ex mcd good)
    (hv : ex = none → mcd = 0 → good → y = x ∧ FP.Core.fIsNaN x = false) {A2 : Nat → Nat → Int32} {S2 : Nat → Int32} {f : Nat → Int64} {g : Nat → UInt64} (hw : ex = none → rt = wO cy q A2 S2 f (vf_upd g 0 (FP.f2d x)))
    (d0 : decode cL_law pc = .ok (.aload_n 2, 1)) (d1 : decode cL_law (pc + 1) = .ok (.invokevirtual 126, 3)) (d4 : decode cL_law (pc + 4) = .ok (.iload 6, 2)) (d6 : decode cL_law (pc + 6) = .ok (.if_icmp .eq 5, 3)) (d11 : decode cL_law (pc + 11) = .ok (.iload 6, 2)) (d13 : decode cL_law (pc + 13) = .ok (.ifCond .ne 36, 3))
    (d16 : decode cL_law (pc + 16) = .ok (.aload 4, 2)) (d18 : decode cL_law (pc + 18) = .ok (.iconst 0, 1)) (d19 : decode cL_law (pc + 19) = .ok (.daload, 1)) (d20 : decode cL_law (pc + 20) = .ok (.fload 7, 2)) (d22 : decode cL_law (pc + 22) = .ok (.f2d, 1)) (d23 : decode cL_law (pc + 23) = .ok (.dcmp .l, 1)) (d24 : decode cL_law (pc + 24) = .ok (.ifCond .eq 25, 3)) {off : Int} (d49 : decode cL_law (pc + 49) = .ok (.goto off, 3)) (ht : ((pc + 49 : Nat) : Int) + off = 2139)
    (kk : ∀ (H : Heap) (locs : List Loc) (ls : Array Slot), IH D cy s.heap.size (rt ++ wM cy q' B1 T1) s H → va_S (fm s.heap.size) s.heap H locs → lv_has ls 8 (lc b q q' i) → W p l e room_1 s m args below meth c H locs cells slots Q (F0 m 2139 ls [])) : W p l e room_1 s m args below meth c H locs cells slots Q (F0 m pc ls []) := by
  have hx := C.1
  have hb := C.2.1
  have hl0 : lv_has ls 8 (lc b q q' i) := lv_sub hl [2, 3, 4, 5, 6, 7] rfl
  have hend : ∀ (H : Heap) (locs : List Loc), IH D cy s.heap.size (rt ++ wM cy q' B1 T1) s H → va_S (fm s.heap.size) s.heap H locs → W p l e room_1 s m args below meth c H locs cells slots Q (F0 m (pc + 49) ls []) := fun H locs hI hS =>
    lv_goto (tgt := 2139) hx hb d49 ht (kk H locs ls hI hS hl0)
  refine tail_t C hts hI hS hT (lv_at hl 5 rfl) (lv_at hl 1 rfl) hl.1 hcs hss h d0 d1 d4 d6 (tgt := pc + 49) d11 d13 (by omega) (fun hex hm hg H locs hI hS => ?_) hend
  obtain ⟨rfl, hnn⟩ := hv hex hm hg
  have hrt := hw hex
  subst hrt
  have hd : FP.dcmp (FP.f2d y) (FP.f2d y) = some .eq := by
    rw [FP.dcmp_core, FP.f2d_core hnn]
    exact FP.Core.dcmp_self ((FP.Core.notNaN_iff _).mp (FP.Core.f2d_out hnn))
  refine lv_aload hx hb d16 (lv_at hl 7 rfl) ?_
  refine lv_iconst (v := 0) hx hb d18 (by decide) ?_
  refine va_dald hx hb hI.1.2.2.1 hI.2.1 20 3 rfl rfl (show vp_in (nI 0) 1 from vp_in_nI (by decide) (by decide)) d19 ?_
  refine lv_fload hx hb d20 (lv_at hl 0 rfl) ?_
  refine lv_f2d hx hb d22 (f2d_nn hnn) ?_
  refine lv_dcmp hx hb d23 ?_
  refine lv_if_eq hx hb (tgt := pc + 49) d24 (by omega) (fun _ => hend H locs hI hS) (fun hz => absurd ?_ hz)
  show Op.cmpValue (FP.dcmp (FP.f2d y) (FP.f2d y)) CmpOp.l = 0
  rw [hd]; rfl
end ARG
end LAWROWS
