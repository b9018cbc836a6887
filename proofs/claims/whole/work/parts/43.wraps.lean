/-! The law's thirty helpers: a call of the class in a world that holds more, what is caught, the two cells that take answers. Rows by wip/whole/gen/part43.py. -/
section LEFT
variable {p : Program} {l : Launch} {e : Env} {R : Room} {s : State} {m : MethodId} {args : Array Value} {below : List Frame} {meth : Method} {c : Code} {H H1 : Heap} {locs : List Loc} {cells slots : Nat} {Q : State → Prop}
variable {cc : ByteArray} {pc : Nat} {ls : Array Slot} {rest st0 : List Value} {D : va_G} {cy : Nat → ClassId} {h0 : Nat} {w w' w1 w2 w1' w2' : va_W} {A0 A1 : Nat → Prop} {H0 : Heap} {a : Array Value} {ex : Option String}
theorem at_l {i : Nat} {x : Nat × va_E} (h : w1[i]? = some x) : (w1 ++ w2)[i]? = some x := by rw [List.getElem?_append_left (List.getElem?_eq_some_iff.mp h).1]; exact h
theorem at_r {i : Nat} {x : Nat × va_E} (h : w2[i]? = some x) : (w1 ++ w2)[w1.length + i]? = some x := by rw [List.getElem?_append_right (by omega), Nat.add_sub_cancel_left]; exact h
theorem IH.left (h : IH D cy h0 (w1 ++ w2) s H) : IH D cy h0 w1 s H :=
  ⟨h.1, fun i x hx => h.2.1 i x (at_l hx), fun i j x y hi hj e => h.2.2.1 i j x y (at_l hi) (at_l hj) e, fun i x hx => h.2.2.2 i x (at_l hx)⟩
theorem IH.right (h : IH D cy h0 (w1 ++ w2) s H) : IH D cy h0 w2 s H :=
  ⟨h.1, fun i x hx => h.2.1 _ x (at_r hx), fun i j x y hi hj e => by have := h.2.2.1 _ _ x y (at_r hi) (at_r hj) e; omega, fun i x hx => h.2.2.2 _ x (at_r hx)⟩
theorem IH.apart (h : IH D cy h0 (w1 ++ w2) s H) {i j : Nat} {x y : Nat × va_E} (hi : w1[i]? = some x) (hj : w2[j]? = some y) : x.1 ≠ y.1 := fun e => by
  have h1 := h.2.2.1 _ _ x y (at_l hi) (at_r hj) e
  have h2 := (List.getElem?_eq_some_iff.mp hi).1
  omega
/-- all of A is a cell of w -/
def inW (A : Nat → Prop) (w : va_W) : Prop := ∀ x, A x → ∃ (i : Nat) (y : Nat × va_E), w[i]? = some y ∧ y.1 = x
theorem IH.joinL {t : State} (h : IH D cy h0 (w1 ++ w2) s H) (he : w1.map (·.1) = w1'.map (·.1)) (hA : inW A1 w1) (h1 : IH D cy h0 w1' t H1) (hz : H.size ≤ H1.size) (hk : ∀ q : Nat, q < H.size → ¬ A1 q → H1[q]? = H[q]?) : IH D cy h0 (w1' ++ w2) s H1 := by
  refine ⟨h.1.keep hz (fun b hb => hk b (Nat.lt_of_lt_of_le hb h.1.2.2.2) (fun z => ?_)), h1.2.1.app ((IH.right h).2.1.kept (fun j y hy => hk y.1 ((IH.right h).lt j y hy) (fun z => ?_))), va_D.addr h.2.2 (by rw [List.map_append, List.map_append, he])⟩
  · obtain ⟨i, y, hi, rfl⟩ := hA b z
    exact absurd ((IH.left h).2.2.2 i y hi) (Nat.not_le.mpr hb)
  · obtain ⟨i, x, hi, e⟩ := hA y.1 z
    exact h.apart hi hy e
theorem IH.joinR {t : State} (h : IH D cy h0 (w1 ++ w2) s H) (he : w2.map (·.1) = w2'.map (·.1)) (hA : inW A1 w2) (h1 : IH D cy h0 w2' t H1) (hz : H.size ≤ H1.size) (hk : ∀ q : Nat, q < H.size → ¬ A1 q → H1[q]? = H[q]?) : IH D cy h0 (w1 ++ w2') s H1 := by
  refine ⟨h.1.keep hz (fun b hb => hk b (Nat.lt_of_lt_of_le hb h.1.2.2.2) (fun z => ?_)), ((IH.left h).2.1.kept (fun j y hy => hk y.1 ((IH.left h).lt j y hy) (fun z => ?_))).app h1.2.1, va_D.addr h.2.2 (by rw [List.map_append, List.map_append, he])⟩
  · obtain ⟨i, y, hi, rfl⟩ := hA b z
    exact absurd ((IH.right h).2.2.2 i y hi) (Nat.not_le.mpr hb)
  · obtain ⟨i, x, hi, e⟩ := hA y.1 z
    exact h.apart hy hi e.symm
theorem IH.geL (h : IH D cy h0 (w1 ++ w2) s H) (hA : inW A1 w1) : ∀ q, A1 q → h0 ≤ q := fun q hq => by
  obtain ⟨i, y, hi, rfl⟩ := hA q hq
  exact (IH.left h).2.2.2 i y hi
theorem IH.geR (h : IH D cy h0 (w1 ++ w2) s H) (hA : inW A1 w2) : ∀ q, A1 q → h0 ≤ q := fun q hq => by
  obtain ⟨i, y, hi, rfl⟩ := hA q hq
  exact (IH.right h).2.2.2 i y hi
/-- a call that may throw, the world a part of a greater one: both ways -/
theorem wc_w_i {v : Int32} (hr : vx_Run p l e R s m args below meth c H locs cells slots (c1 ex) (c6 ex) (F0 m pc ls st0) rest (xwI ex v D cy h0 w1' A1 a) (xx ex) A1) (hI : IH D cy h0 (w1 ++ w2) s H) (hS : va_S A0 H0 H locs) (hA : ∀ q, A1 q → A0 q) (he : w1.map (·.1) = w1'.map (·.1)) (hin : inW A1 w1)
    (kk : ex = none → ∀ (H1 : Heap) (locs1 : List Loc), IH D cy h0 (w1' ++ w2) s H1 → va_S A0 H0 H1 locs1 → W p l e R s m args below meth c H1 locs1 cells slots Q (F0 m (pc + 3) ls (.int v :: rest)))
    (kx : ∀ E, ex = some E → ∀ (ce : Cell) (q9 : Nat) (H1 : Heap) (locs1 : List Loc), IH D cy h0 (w1 ++ w2) s H1 → va_S A0 H0 H1 locs1 → H1[q9]? = some ce → ce.vm = .none → s.vm.findClass E = some ce.cls → vx_W p l e R s m args below meth c H1 locs1 (cells + 1) (slots + 6) Q (F0 m pc ls rest) q9) : W p l e R s m args below meth c H locs cells slots Q (F0 m pc ls st0) := by
  cases ex with
  | none =>
    exact vx_calli hr hS (fun q _ h => hA q h) hA (fun q _ h => h.elim) (fun E ce q9 u t H1 locs1 ht hvm _ hB => by cases hB) (fun r u t H1 locs1 ht hvm hw hB hz1 hk1 hS1 => by
      obtain ⟨-, rfl⟩ := hw
      have hB' : IH D cy h0 w1' t t.heap := hB
      rw [ht] at hB'
      exact kk rfl H1 locs1 (hI.joinL he hin hB' hz1 hk1) hS1)
  | some E => exact xbw_i rfl hr hI hS hA (kx E rfl)
theorem wc_o_i {v : Int32} (hr : vx_Run p l e R s m args below meth c H locs cells slots (c1 ex) (c6 ex) (F0 m pc ls st0) rest (xoI ex v a) (xx ex) nof) (hI : IH D cy h0 w s H) (hS : va_S A0 H0 H locs)
    (kk : ex = none → ∀ (H1 : Heap) (locs1 : List Loc), IH D cy h0 w s H1 → va_S A0 H0 H1 locs1 → W p l e R s m args below meth c H1 locs1 cells slots Q (F0 m (pc + 3) ls (.int v :: rest)))
    (kx : ∀ E, ex = some E → ∀ (ce : Cell) (q9 : Nat) (H1 : Heap) (locs1 : List Loc), IH D cy h0 w s H1 → va_S A0 H0 H1 locs1 → H1[q9]? = some ce → ce.vm = .none → s.vm.findClass E = some ce.cls → vx_W p l e R s m args below meth c H1 locs1 (cells + 1) (slots + 6) Q (F0 m pc ls rest) q9) : W p l e R s m args below meth c H locs cells slots Q (F0 m pc ls st0) := by
  cases ex with
  | none => exact xo_i rfl hr hI hS (kk rfl)
  | some E => exact xb_i rfl hr hI hS (kx E rfl)
theorem wc_o_f {v : UInt32} (hr : vx_Run p l e R s m args below meth c H locs cells slots (c1 ex) (c6 ex) (F0 m pc ls st0) rest (xoF ex v a) (xx ex) nof) (hI : IH D cy h0 w s H) (hS : va_S A0 H0 H locs)
    (kk : ex = none → ∀ (H1 : Heap) (locs1 : List Loc), IH D cy h0 w s H1 → va_S A0 H0 H1 locs1 → W p l e R s m args below meth c H1 locs1 cells slots Q (F0 m (pc + 3) ls (.float v :: rest)))
    (kx : ∀ E, ex = some E → ∀ (ce : Cell) (q9 : Nat) (H1 : Heap) (locs1 : List Loc), IH D cy h0 w s H1 → va_S A0 H0 H1 locs1 → H1[q9]? = some ce → ce.vm = .none → s.vm.findClass E = some ce.cls → vx_W p l e R s m args below meth c H1 locs1 (cells + 1) (slots + 6) Q (F0 m pc ls rest) q9) : W p l e R s m args below meth c H locs cells slots Q (F0 m pc ls st0) := by
  cases ex with
  | none => exact xo_f rfl hr hI hS (kk rfl)
  | some E => exact xb_f rfl hr hI hS (kx E rfl)
/-- the cell of one long, of one double -/
theorem r_last {q0 b : Nat} {f : Nat → Int64} {i : Int32} {x : Int64} (hexec : p.tables.exec = Jvm.exec) (hb : c.code = cc) (hI : IH D cy h0 w s H) (hS : va_S A0 H0 H locs) (hA : ∀ q, A0 q → h0 ≤ q) (hh : h0 ≤ H0.size) (hwA : va_D A0 w) (ha : w[q0]? = some (b, .inl (cy 2, 1, .inr (.inl f)))) (hi : i = 0) (hdg : decode cc pc = .ok (.lastore, 1))
    (hw' : w.set q0 (b, .inl (cy 2, 1, .inr (.inl (vp_updL f 0 x)))) = w') (kk : ∀ (H1 : Heap) (locs1 : List Loc), IH D cy h0 w' s H1 → va_S A0 H0 H1 locs1 → W p l e R s m args below meth c H1 locs1 cells slots Q (F0 m (pc + 1) ls rest)) : W p l e R s m args below meth c H locs cells slots Q (F0 m pc ls (.long x :: .int i :: .ref b :: rest)) := by
  subst hi
  subst hw'
  exact va_last (q0 := q0) (t0 := 2) hexec hb hI.1.2.2.1 hI.2.1 hwA hS ha rfl (show vp_in (nI 0) 1 from vp_in_nI (by decide) (by decide)) hdg (fun H1 locs1 hP hD hS1 => kk H1 locs1 ⟨hI.1.put hS hS1 hA hh, hP, hD.weaken (fun _ _ _ h => hA _ h)⟩ hS1)
theorem r_dast {q0 b : Nat} {f : Nat → UInt64} {i : Int32} {x : UInt64} (hexec : p.tables.exec = Jvm.exec) (hb : c.code = cc) (hI : IH D cy h0 w s H) (hS : va_S A0 H0 H locs) (hA : ∀ q, A0 q → h0 ≤ q) (hh : h0 ≤ H0.size) (hwA : va_D A0 w) (ha : w[q0]? = some (b, .inl (cy 3, 1, .inr (.inr (.inr (.inl f)))))) (hi : i = 0) (hdg : decode cc pc = .ok (.dastore, 1))
    (hw' : w.set q0 (b, .inl (cy 3, 1, .inr (.inr (.inr (.inl (vf_upd f 0 x)))))) = w') (kk : ∀ (H1 : Heap) (locs1 : List Loc), IH D cy h0 w' s H1 → va_S A0 H0 H1 locs1 → W p l e R s m args below meth c H1 locs1 cells slots Q (F0 m (pc + 1) ls rest)) : W p l e R s m args below meth c H locs cells slots Q (F0 m pc ls (.double x :: .int i :: .ref b :: rest)) := by
  subst hi
  subst hw'
  exact va_dast (q0 := q0) (t0 := 3) hexec hb hI.1.2.2.1 hI.2.1 hwA hS ha rfl (show vp_in (nI 0) 1 from vp_in_nI (by decide) (by decide)) hdg (fun H1 locs1 hP hD hS1 => kk H1 locs1 ⟨hI.1.put hS hS1 hA hh, hP, hD.weaken (fun _ _ _ h => hA _ h)⟩ hS1)
theorem end_w {v x : Int32} {k n mc ms : Nat} (hexec : p.tables.exec = Jvm.exec) (hb : c.code = cc) (hr : meth.sig.returnType = some .int) (he : x = v) (h1 : k = mc) (h2 : n = ms) (hI : IH D cy h0 w s H) (hw : w = w') (hS : va_S A1 s.heap H locs) (hdg : decode cc pc = .ok (.ireturn, 1)) (hlocks : meth.locks = false) : W p l e R s m args below meth c H locs k n (MQ below (rwI v D cy h0 w' A1) args s mc ms A1) (F0 m pc ls [.int x]) := by
  subst h1; subst h2; subst hw
  exact W.iret (v := x) hexec hb hr (fun t ht hW => ⟨⟨x, (), rfl, he, hI.warm hW ht⟩, hS.F ht⟩) (fun q hq => hS.2.2 q hq) hdg hlocks
end LEFT
def wO (cy : Nat → ClassId) (q : Nat → Nat) (A : Nat → Nat → Int32) (S : Nat → Int32) (f : Nat → Int64) (g : Nat → UInt64) : va_W := wX cy q A S ++ [(q 19, .inl (cy 2, 1, .inr (.inl f))), (q 20, .inl (cy 3, 1, .inr (.inr (.inr (.inl g)))))]
theorem in_X {cy : Nat → ClassId} {q : Nat → Nat} {A : Nat → Nat → Int32} {S : Nat → Int32} : inW (qA 19 q) (wX cy q A S) := by
  rintro x ⟨k, hk, rfl⟩
  match k, hk with
  | 0, _ => exact ⟨0, _, rfl, rfl⟩
  | 1, _ => exact ⟨1, _, rfl, rfl⟩
  | 2, _ => exact ⟨2, _, rfl, rfl⟩
  | 3, _ => exact ⟨3, _, rfl, rfl⟩
  | 4, _ => exact ⟨4, _, rfl, rfl⟩
  | 5, _ => exact ⟨5, _, rfl, rfl⟩
  | 6, _ => exact ⟨6, _, rfl, rfl⟩
  | 7, _ => exact ⟨7, _, rfl, rfl⟩
  | 8, _ => exact ⟨8, _, rfl, rfl⟩
  | 9, _ => exact ⟨9, _, rfl, rfl⟩
  | 10, _ => exact ⟨10, _, rfl, rfl⟩
  | 11, _ => exact ⟨11, _, rfl, rfl⟩
  | 12, _ => exact ⟨12, _, rfl, rfl⟩
  | 13, _ => exact ⟨13, _, rfl, rfl⟩
  | 14, _ => exact ⟨14, _, rfl, rfl⟩
  | 15, _ => exact ⟨15, _, rfl, rfl⟩
  | 16, _ => exact ⟨16, _, rfl, rfl⟩
  | 17, _ => exact ⟨17, _, rfl, rfl⟩
  | 18, _ => exact ⟨18, _, rfl, rfl⟩
  | n + 19, h => omega
theorem in_M {cy : Nat → ClassId} {q : Nat → Nat} {A : Nat → Nat → Int32} {S : Nat → Int32} : inW (qA 18 q) (wM cy q A S) := by
  rintro x ⟨k, hk, rfl⟩
  match k, hk with
  | 0, _ => exact ⟨0, _, rfl, rfl⟩
  | 1, _ => exact ⟨1, _, rfl, rfl⟩
  | 2, _ => exact ⟨2, _, rfl, rfl⟩
  | 3, _ => exact ⟨3, _, rfl, rfl⟩
  | 4, _ => exact ⟨4, _, rfl, rfl⟩
  | 5, _ => exact ⟨5, _, rfl, rfl⟩
  | 6, _ => exact ⟨6, _, rfl, rfl⟩
  | 7, _ => exact ⟨7, _, rfl, rfl⟩
  | 8, _ => exact ⟨8, _, rfl, rfl⟩
  | 9, _ => exact ⟨9, _, rfl, rfl⟩
  | 10, _ => exact ⟨10, _, rfl, rfl⟩
  | 11, _ => exact ⟨11, _, rfl, rfl⟩
  | 12, _ => exact ⟨12, _, rfl, rfl⟩
  | 13, _ => exact ⟨13, _, rfl, rfl⟩
  | 14, _ => exact ⟨14, _, rfl, rfl⟩
  | 15, _ => exact ⟨15, _, rfl, rfl⟩
  | 16, _ => exact ⟨16, _, rfl, rfl⟩
  | 17, _ => exact ⟨17, _, rfl, rfl⟩
  | n + 18, h => omega
theorem in_O {cy : Nat → ClassId} {q : Nat → Nat} {A : Nat → Nat → Int32} {S : Nat → Int32} {f : Nat → Int64} {g : Nat → UInt64} : inW (qA 21 q) (wO cy q A S f g) := by
  rintro x ⟨k, hk, rfl⟩
  by_cases h : k < 19
  · obtain ⟨i, y, hi, e⟩ := in_X (cy := cy) (A := A) (S := S) (q k) ⟨k, h, rfl⟩
    exact ⟨i, y, at_l hi, e⟩
  · rcases (show k = 19 ∨ k = 20 by omega) with rfl | rfl
    · exact ⟨19, _, rfl, rfl⟩
    · exact ⟨20, _, rfl, rfl⟩
theorem qA_O {D : va_G} {cy : Nat → ClassId} {h0 : Nat} {q : Nat → Nat} {A : Nat → Nat → Int32} {S : Nat → Int32} {f : Nat → Int64} {g : Nat → UInt64} {s : State} {H : Heap} (h : IH D cy h0 (wO cy q A S f g) s H) : va_D (qA 21 q) (wO cy q A S f g) := by
  refine h.dA (fun k x hk => ?_)
  have hl : k < 21 := (List.getElem?_eq_some_iff.mp hk).1
  by_cases h9 : k < 19
  · have h1 : (wX cy q A S)[k]? = some x := by
      have h2 : (wX cy q A S ++ [(q 19, .inl (cy 2, 1, .inr (.inl f))), (q 20, .inl (cy 3, 1, .inr (.inr (.inr (.inl g)))))])[k]? = some x := hk
      rw [List.getElem?_append_left h9] at h2
      exact h2
    obtain ⟨i, hi, e⟩ := (qA_X (IH.left h)).2 k x h1
    exact ⟨i, by omega, e⟩
  · rcases (show k = 19 ∨ k = 20 by omega) with rfl | rfl
    · cases hk; exact ⟨19, by decide, rfl⟩
    · cases hk; exact ⟨20, by decide, rfl⟩
theorem hA_O {D : va_G} {cy : Nat → ClassId} {h0 : Nat} {q : Nat → Nat} {A : Nat → Nat → Int32} {S : Nat → Int32} {f : Nat → Int64} {g : Nat → UInt64} {s : State} {H : Heap} (h : IH D cy h0 (wO cy q A S f g) s H) : ∀ x, qA 21 q x → h0 ≤ x := fun x hx => by
  obtain ⟨i, y, hi, rfl⟩ := in_O (cy := cy) (A := A) (S := S) (f := f) (g := g) x hx
  exact h.2.2.2 i y hi
theorem q19 {q : Nat → Nat} : ∀ x, qA 19 q x → qA 21 q x := fun _ ⟨k, hk, e⟩ => ⟨k, by omega, e⟩
/-- which of its exceptions a helper caught, from 1 on -/
def cd (L : List String) : Option String → Int32
  | none => 0
  | some E => nI (L.findIdx (fun x => x == E) + 1)
theorem f2d_nn {x : UInt32} (h : FP.Core.fIsNaN x = false) : vf_n64 (FP.f2d x) := by
  rw [FP.f2d_core h]; exact nn64 (FP.Core.f2d_out h)
theorem sh_nn {x y : Int32} (h : ¬ y = 0) : FP.Core.fIsNaN (FP.fdiv (FP.i2f x) (FP.i2f y)) = false := by
  refine FP.Core.fdiv_out (FP.Core.i2f_fin x).notNaN (FP.Core.i2f_fin y) ?_
  rw [FP.Core.zero_bits232]
  have h1 : y.toInt ≠ 0 := fun e => h (Int32.toInt_inj.mp e)
  have h2 := (FP.Core.i2f_big h1).1
  show ¬ (FP.Core.i2f y).toNat % 2 ^ 31 = 0
  omega
theorem ex_sh {A : Nat → Nat → Int32} {b : Int32} {nb : Nat} (h : exShare A b nb = none) : ¬ A 11 (ix b) = 0 := by
  unfold exShare at h
  split at h
  · split at h
    · rename_i h2; intro e; rw [e] at h2; exact absurd h2 (by decide)
    · cases h
  · cases h

theorem ran_addKey {S : Nat → Int32} {signer : Int32} {first : Int32} {last : Int32} {E : String} (h : exAddKey S signer first last = some E) : E = xIAE ∨ E = xISE := by
  revert h
  unfold exAddKey
  repeat' split
  all_goals (intro h; first | (cases h; done) | (injection h with h; subst h; simp))
set_option maxHeartbeats 4000000 in
set_option maxRecDepth 100000 in
theorem c_L_addKey (l : Launch) (hst : l.stackTraces = false) (D : va_G) (cy : Nat → ClassId) (h0 : Nat) (q : Nat → Nat) (A : Nat → Nat → Int32) (S : Nat → Int32) (f : Nat → Int64) (g : Nat → UInt64) (signer : Int32) (first : Int32) (last : Int32) (nk : Nat) (hnk : nk ≤ 8) (hck : S 3 = nI nk) : Met l yL_addKey wsL_addKey (rmX (exAddKey S signer first last) 8 126) (va_Pc [.ref (q 0), .int signer, .int first, .int last, .ref (q 19)] (pI D cy h0 (wO cy q A S f g))) (rwI (cd [xIAE, xISE] (exAddKey S signer first last)) D cy h0 (if exAddKey S signer first last = none then wO cy q (uA (uA (uA A 2 (upd (A 2) nk signer)) 3 (upd (A 3) nk first)) 4 (upd (A 4) nk last)) (uS S 3 (S 3 + 1)) (vp_updL f 0 ((S 3).toInt64)) g else wO cy q A S f g) (qA 21 q)) (c1 (exAddKey S signer first last)) (c6 (exAddKey S signer first last)) (qA 21 q) := by
  refine va_MetW (cc := cL_addKey) (maxL := 6) (ret := some .int) (by decide) rfl ?_
  intro p e s m args below meth c s₁ B hml hv
  obtain ⟨rfl, hI⟩ := hv
  have hx := B.exec
  have hb := B.bytes
  have hr := B.returns
  have hts := atoms_spec (ws := wsL_addKey) B.pre
  have hown : s.vm.findClass RL = some m.cls := findClass_of_methodNamed B.named
  have hlk := B.notSynchronized
  have htb := vx_table (x := yL_addKey) B (hts _ List.mem_cons_self)
  have hI : IH D cy h0 (wO cy q A S f g) s s.heap := hI
  have hqA := hA_O hI
  have hh0 : h0 ≤ s.heap.size := hI.1.2.2.2
  have hS : va_S (qA 21 q) s.heap s.heap [] := va_S.rf
  have hl := lv_entry ([.ref (q 0), .int signer, .int first, .int last, .ref (q 19)]) (n := 6) (Nat.le_of_ble_eq_true rfl)
  rw [lg_entry_eq]
  generalize (lg_sl ([.ref (q 0), .int signer, .int first, .int last, .ref (q 19)]) ++ List.replicate (6 - (lg_sl ([.ref (q 0), .int signer, .int first, .int last, .ref (q 19)])).length) Slot.unset).toArray = ls at hl ⊢
  have hl : lv_has ls 6 [(0, .ref (q 0)), (1, .int signer), (2, .int first), (3, .int last), (4, .ref (q 19))] := hl
  refine lv_aload hx hb dL_addKey_0 (lv_at hl 4 rfl) ?_
  refine lv_iconst (v := 0) hx hb dL_addKey_2 (by decide) ?_
  refine lv_aload_n hx hb dL_addKey_3 rfl (lv_at hl 0 rfl) ?_
  refine lv_iload_n hx hb dL_addKey_4 rfl (lv_at hl 1 rfl) ?_
  refine lv_iload_n hx hb dL_addKey_5 rfl (lv_at hl 2 rfl) ?_
  refine lv_iload_n hx hb dL_addKey_6 rfl (lv_at hl 3 rfl) ?_
  refine wc_w_i (w1' := wX cy q (uA (uA (uA A 2 (upd (A 2) nk signer)) 3 (upd (A 3) nk first)) 4 (upd (A 4) nk last)) (uS S 3 (S 3 + 1))) (vx_runV (As := [.int signer, .int first, .int last]) (rest := [.int 0, .ref (q 19)]) ⟨hx, hb, hml, hown, hts⟩ (c_X3_addKey l hst D cy h0 q A S signer first last nk hnk hck) (cwV 3 hts gL_addKey_X3_addKey rfl rfl rfl (by decide +kernel) ⟨Nat.le_of_ble_eq_true rfl, Nat.le_of_ble_eq_true rfl⟩) ((IH.left hI).preV (k0 := 0) rfl rfl) rfl rfl hl.1 rfl (lv_room (Nat.le_of_ble_eq_true rfl)) dL_addKey_7 ⟨Nat.le_of_eq (Nat.zero_add _), Nat.le_of_eq (Nat.zero_add _)⟩) hI hS q19 rfl in_X (fun hex H locs hI hS => ?_) (fun E hex ce q9 H locs hI hS hce hcv hcl => ?_)
  · have hI : IH D cy h0 (wO cy q (uA (uA (uA A 2 (upd (A 2) nk signer)) 3 (upd (A 3) nk first)) 4 (upd (A 4) nk last)) (uS S 3 (S 3 + 1)) f g) s H := hI
    refine lv_i2l hx hb dL_addKey_10 rfl ?_
    refine r_last (w' := wO cy q (uA (uA (uA A 2 (upd (A 2) nk signer)) 3 (upd (A 3) nk first)) 4 (upd (A 4) nk last)) (uS S 3 (S 3 + 1)) (vp_updL f 0 ((S 3).toInt64)) g) (q0 := 19) hx hb hI hS hqA hh0 (qA_O hI) rfl rfl dL_addKey_11 rfl (fun H locs hI hS => ?_)
    refine lv_goto (tgt := 23) hx hb dL_addKey_12 (by decide) ?_
    refine lv_iconst (v := 0) hx hb dL_addKey_23 (by decide) ?_
    exact end_w hx hb hr (by rw [hex]; rfl) (by rw [hex]; rfl) (by rw [hex]; rfl) hI (by rw [if_pos hex]) hS dL_addKey_24 hlk
  · have hI : IH D cy h0 (wO cy q A S f g) s H := hI
    rcases ran_addKey hex with rfl | rfl
    · refine vx_catch (name := xIAE) hown [] ⟨0, 12, 15, 13⟩ [⟨0, 12, 19, 15⟩] (htb.trans rfl) (fun z hz => by
          cases hz) (by decide) (by decide) (hts (.classLink RL 13 "java/lang/IllegalArgumentException") (List.mem_of_getElem? (i := 1) rfl)) (va_Nw.use rfl (hI.1.1.2.2.1 xIAE (List.mem_of_getElem? (i := 0) rfl))) hce hcv hcl ?_
      refine lv_astore (lv' := [(5, .ref q9), (0, .ref (q 0)), (1, .int signer), (2, .int first), (3, .int last), (4, .ref (q 19))]) hx hb dL_addKey_15 hl (by decide) rfl (fun ls hl => ?_)
      refine lv_iconst (v := 1) hx hb dL_addKey_17 (by decide) ?_
      exact end_w hx hb hr (by rw [hex]; decide) (by rw [hex]; rfl) (by rw [hex]; rfl) hI (by rw [if_neg (by rw [hex]; exact Option.some_ne_none _)]) hS dL_addKey_18 hlk
    · refine vx_catch (name := xISE) hown [⟨0, 12, 15, 13⟩] ⟨0, 12, 19, 15⟩ [] (htb.trans rfl) (fun z hz => by
          rcases List.mem_cons.mp hz with rfl | hz
          · exact Or.inr ⟨by decide, xIAE, (hts (.classLink RL 13 "java/lang/IllegalArgumentException") (List.mem_of_getElem? (i := 1) rfl)), hI.1.1.2.2.2.2.1 (xISE, xIAE) (List.mem_of_getElem? (i := 4) rfl)⟩
          cases hz) (by decide) (by decide) (hts (.classLink RL 15 "java/lang/IllegalStateException") (List.mem_of_getElem? (i := 2) rfl)) (va_Nw.use rfl (hI.1.1.2.2.1 xISE (List.mem_of_getElem? (i := 1) rfl))) hce hcv hcl ?_
      refine lv_astore (lv' := [(5, .ref q9), (0, .ref (q 0)), (1, .int signer), (2, .int first), (3, .int last), (4, .ref (q 19))]) hx hb dL_addKey_19 hl (by decide) rfl (fun ls hl => ?_)
      refine lv_iconst (v := 2) hx hb dL_addKey_21 (by decide) ?_
      exact end_w hx hb hr (by rw [hex]; decide) (by rw [hex]; rfl) (by rw [hex]; rfl) hI (by rw [if_neg (by rw [hex]; exact Option.some_ne_none _)]) hS dL_addKey_22 hlk
theorem ran_loseKey {S : Nat → Int32} {key : Int32} {nk : Nat} {E : String} (h : exLoseKey S key nk = some E) : E = xIOB ∨ E = xISE := by
  revert h
  unfold exLoseKey
  repeat' split
  all_goals (intro h; first | (cases h; done) | (injection h with h; subst h; simp))
set_option maxHeartbeats 4000000 in
set_option maxRecDepth 100000 in
theorem c_L_loseKey (l : Launch) (hst : l.stackTraces = false) (D : va_G) (cy : Nat → ClassId) (h0 : Nat) (q : Nat → Nat) (A : Nat → Nat → Int32) (S : Nat → Int32) (f : Nat → Int64) (g : Nat → UInt64) (key : Int32) (nk : Nat) (hnk : nk ≤ 8) (hck : S 3 = nI nk) (nb : Nat) (hnb : nb ≤ 24) (hcb : S 5 = nI nb) (htn : ∀ b, b < nb → ∃ t, t < 5 ∧ A 5 b = nI t) : Met l yL_loseKey wsL_loseKey (rmX (exLoseKey S key nk) 8 132) (va_Pc [.ref (q 0), .int key, .ref (q 19)] (pI D cy h0 (wO cy q A S f g))) (rwI (cd [xIOB, xISE] (exLoseKey S key nk)) D cy h0 (if exLoseKey S key nk = none then wO cy q (lkA A S key nk nb) (lkS S key) (vp_updL f 0 ((bcF (tbF A nb &&& (tbF (lkA A S key nk nb) nb ^^^ (-1)))).toInt64)) g else wO cy q A S f g) (qA 21 q)) (c1 (exLoseKey S key nk)) (c6 (exLoseKey S key nk)) (qA 21 q) := by
  refine va_MetW (cc := cL_loseKey) (maxL := 4) (ret := some .int) (by decide) rfl ?_
  intro p e s m args below meth c s₁ B hml hv
  obtain ⟨rfl, hI⟩ := hv
  have hx := B.exec
  have hb := B.bytes
  have hr := B.returns
  have hts := atoms_spec (ws := wsL_loseKey) B.pre
  have hown : s.vm.findClass RL = some m.cls := findClass_of_methodNamed B.named
  have hlk := B.notSynchronized
  have htb := vx_table (x := yL_loseKey) B (hts _ List.mem_cons_self)
  have hI : IH D cy h0 (wO cy q A S f g) s s.heap := hI
  have hqA := hA_O hI
  have hh0 : h0 ≤ s.heap.size := hI.1.2.2.2
  have hS : va_S (qA 21 q) s.heap s.heap [] := va_S.rf
  have hl := lv_entry ([.ref (q 0), .int key, .ref (q 19)]) (n := 4) (Nat.le_of_ble_eq_true rfl)
  rw [lg_entry_eq]
  generalize (lg_sl ([.ref (q 0), .int key, .ref (q 19)]) ++ List.replicate (4 - (lg_sl ([.ref (q 0), .int key, .ref (q 19)])).length) Slot.unset).toArray = ls at hl ⊢
  have hl : lv_has ls 4 [(0, .ref (q 0)), (1, .int key), (2, .ref (q 19))] := hl
  refine lv_aload_n hx hb dL_loseKey_0 rfl (lv_at hl 2 rfl) ?_
  refine lv_iconst (v := 0) hx hb dL_loseKey_1 (by decide) ?_
  refine lv_aload_n hx hb dL_loseKey_2 rfl (lv_at hl 0 rfl) ?_
  refine lv_iload_n hx hb dL_loseKey_3 rfl (lv_at hl 1 rfl) ?_
  refine wc_w_i (w1' := wX cy q (lkA A S key nk nb) (lkS S key)) (vx_runV (As := [.int key]) (rest := [.int 0, .ref (q 19)]) ⟨hx, hb, hml, hown, hts⟩ (c_X3_loseKey l hst D cy h0 q A S key nk hnk hck nb hnb hcb htn) (cwV 1 hts gL_loseKey_X3_loseKey rfl rfl rfl (by decide +kernel) ⟨Nat.le_of_ble_eq_true rfl, Nat.le_of_ble_eq_true rfl⟩) ((IH.left hI).preV (k0 := 0) rfl rfl) rfl rfl hl.1 rfl (lv_room (Nat.le_of_ble_eq_true rfl)) dL_loseKey_4 ⟨Nat.le_of_eq (Nat.zero_add _), Nat.le_of_eq (Nat.zero_add _)⟩) hI hS q19 rfl in_X (fun hex H locs hI hS => ?_) (fun E hex ce q9 H locs hI hS hce hcv hcl => ?_)
  · have hI : IH D cy h0 (wO cy q (lkA A S key nk nb) (lkS S key) f g) s H := hI
    refine lv_i2l hx hb dL_loseKey_7 rfl ?_
    refine r_last (w' := wO cy q (lkA A S key nk nb) (lkS S key) (vp_updL f 0 ((bcF (tbF A nb &&& (tbF (lkA A S key nk nb) nb ^^^ (-1)))).toInt64)) g) (q0 := 19) hx hb hI hS hqA hh0 (qA_O hI) rfl rfl dL_loseKey_8 rfl (fun H locs hI hS => ?_)
    refine lv_goto (tgt := 18) hx hb dL_loseKey_9 (by decide) ?_
    refine lv_iconst (v := 0) hx hb dL_loseKey_18 (by decide) ?_
    exact end_w hx hb hr (by rw [hex]; rfl) (by rw [hex]; rfl) (by rw [hex]; rfl) hI (by rw [if_pos hex]) hS dL_loseKey_19 hlk
  · have hI : IH D cy h0 (wO cy q A S f g) s H := hI
    rcases ran_loseKey hex with rfl | rfl
    · refine vx_catch (name := xIOB) hown [] ⟨0, 9, 12, 21⟩ [⟨0, 9, 15, 15⟩] (htb.trans rfl) (fun z hz => by
          cases hz) (by decide) (by decide) (hts (.classLink RL 21 "java/lang/IndexOutOfBoundsException") (List.mem_of_getElem? (i := 1) rfl)) (va_Nw.use rfl (hI.1.1.2.2.1 xIOB (List.mem_of_getElem? (i := 2) rfl))) hce hcv hcl ?_
      refine lv_astore_n (lv' := [(3, .ref q9), (0, .ref (q 0)), (1, .int key), (2, .ref (q 19))]) hx hb dL_loseKey_12 rfl hl (by decide) rfl (fun ls hl => ?_)
      refine lv_iconst (v := 1) hx hb dL_loseKey_13 (by decide) ?_
      exact end_w hx hb hr (by rw [hex]; decide) (by rw [hex]; rfl) (by rw [hex]; rfl) hI (by rw [if_neg (by rw [hex]; exact Option.some_ne_none _)]) hS dL_loseKey_14 hlk
    · refine vx_catch (name := xISE) hown [⟨0, 9, 12, 21⟩] ⟨0, 9, 15, 15⟩ [] (htb.trans rfl) (fun z hz => by
          rcases List.mem_cons.mp hz with rfl | hz
          · exact Or.inr ⟨by decide, xIOB, (hts (.classLink RL 21 "java/lang/IndexOutOfBoundsException") (List.mem_of_getElem? (i := 1) rfl)), hI.1.1.2.2.2.2.1 (xISE, xIOB) (List.mem_of_getElem? (i := 5) rfl)⟩
          cases hz) (by decide) (by decide) (hts (.classLink RL 15 "java/lang/IllegalStateException") (List.mem_of_getElem? (i := 2) rfl)) (va_Nw.use rfl (hI.1.1.2.2.1 xISE (List.mem_of_getElem? (i := 1) rfl))) hce hcv hcl ?_
      refine lv_astore_n (lv' := [(3, .ref q9), (0, .ref (q 0)), (1, .int key), (2, .ref (q 19))]) hx hb dL_loseKey_15 rfl hl (by decide) rfl (fun ls hl => ?_)
      refine lv_iconst (v := 2) hx hb dL_loseKey_16 (by decide) ?_
      exact end_w hx hb hr (by rw [hex]; decide) (by rw [hex]; rfl) (by rw [hex]; rfl) hI (by rw [if_neg (by rw [hex]; exact Option.some_ne_none _)]) hS dL_loseKey_17 hlk
theorem ran_extendKey {A : Nat → Nat → Int32} {S : Nat → Int32} {key : Int32} {last : Int32} {nk : Nat} {E : String} (h : exExtendKey A S key last nk = some E) : E = xIOB ∨ E = xIAE ∨ E = xISE := by
  revert h
  unfold exExtendKey
  repeat' split
  all_goals (intro h; first | (cases h; done) | (injection h with h; subst h; simp))
set_option maxHeartbeats 4000000 in
set_option maxRecDepth 100000 in
theorem c_L_extendKey (l : Launch) (hst : l.stackTraces = false) (D : va_G) (cy : Nat → ClassId) (h0 : Nat) (q : Nat → Nat) (A : Nat → Nat → Int32) (S : Nat → Int32) (f : Nat → Int64) (g : Nat → UInt64) (key : Int32) (last : Int32) (nk : Nat) (hnk : nk ≤ 8) (hck : S 3 = nI nk) : Met l yL_extendKey wsL_extendKey (rmX (exExtendKey A S key last nk) 8 126) (va_Pc [.ref (q 0), .int key, .int last, .ref (q 19)] (pI D cy h0 (wO cy q A S f g))) (rwI (cd [xIOB, xIAE, xISE] (exExtendKey A S key last nk)) D cy h0 (if exExtendKey A S key last nk = none then wO cy q (uA A 4 (upd (A 4) (ix key) last)) S (vp_updL f 0 ((A 4 (ix key)).toInt64)) g else wO cy q A S f g) (qA 21 q)) (c1 (exExtendKey A S key last nk)) (c6 (exExtendKey A S key last nk)) (qA 21 q) := by
  refine va_MetW (cc := cL_extendKey) (maxL := 5) (ret := some .int) (by decide) rfl ?_
  intro p e s m args below meth c s₁ B hml hv
  obtain ⟨rfl, hI⟩ := hv
  have hx := B.exec
  have hb := B.bytes
  have hr := B.returns
  have hts := atoms_spec (ws := wsL_extendKey) B.pre
  have hown : s.vm.findClass RL = some m.cls := findClass_of_methodNamed B.named
  have hlk := B.notSynchronized
  have htb := vx_table (x := yL_extendKey) B (hts _ List.mem_cons_self)
  have hI : IH D cy h0 (wO cy q A S f g) s s.heap := hI
  have hqA := hA_O hI
  have hh0 : h0 ≤ s.heap.size := hI.1.2.2.2
  have hS : va_S (qA 21 q) s.heap s.heap [] := va_S.rf
  have hl := lv_entry ([.ref (q 0), .int key, .int last, .ref (q 19)]) (n := 5) (Nat.le_of_ble_eq_true rfl)
  rw [lg_entry_eq]
  generalize (lg_sl ([.ref (q 0), .int key, .int last, .ref (q 19)]) ++ List.replicate (5 - (lg_sl ([.ref (q 0), .int key, .int last, .ref (q 19)])).length) Slot.unset).toArray = ls at hl ⊢
  have hl : lv_has ls 5 [(0, .ref (q 0)), (1, .int key), (2, .int last), (3, .ref (q 19))] := hl
  refine lv_aload_n hx hb dL_extendKey_0 rfl (lv_at hl 3 rfl) ?_
  refine lv_iconst (v := 0) hx hb dL_extendKey_1 (by decide) ?_
  refine lv_aload_n hx hb dL_extendKey_2 rfl (lv_at hl 0 rfl) ?_
  refine lv_iload_n hx hb dL_extendKey_3 rfl (lv_at hl 1 rfl) ?_
  refine lv_iload_n hx hb dL_extendKey_4 rfl (lv_at hl 2 rfl) ?_
  refine wc_w_i (w1' := wX cy q (uA A 4 (upd (A 4) (ix key) last)) S) (vx_runV (As := [.int key, .int last]) (rest := [.int 0, .ref (q 19)]) ⟨hx, hb, hml, hown, hts⟩ (c_X3_extendKey l hst D cy h0 q A S key last nk hnk hck) (cwV 2 hts gL_extendKey_X3_extendKey rfl rfl rfl (by decide +kernel) ⟨Nat.le_of_ble_eq_true rfl, Nat.le_of_ble_eq_true rfl⟩) ((IH.left hI).preV (k0 := 0) rfl rfl) rfl rfl hl.1 rfl (lv_room (Nat.le_of_ble_eq_true rfl)) dL_extendKey_5 ⟨Nat.le_of_eq (Nat.zero_add _), Nat.le_of_eq (Nat.zero_add _)⟩) hI hS q19 rfl in_X (fun hex H locs hI hS => ?_) (fun E hex ce q9 H locs hI hS hce hcv hcl => ?_)
  · have hI : IH D cy h0 (wO cy q (uA A 4 (upd (A 4) (ix key) last)) S f g) s H := hI
    refine lv_i2l hx hb dL_extendKey_8 rfl ?_
    refine r_last (w' := wO cy q (uA A 4 (upd (A 4) (ix key) last)) S (vp_updL f 0 ((A 4 (ix key)).toInt64)) g) (q0 := 19) hx hb hI hS hqA hh0 (qA_O hI) rfl rfl dL_extendKey_9 rfl (fun H locs hI hS => ?_)
    refine lv_goto (tgt := 25) hx hb dL_extendKey_10 (by decide) ?_
    refine lv_iconst (v := 0) hx hb dL_extendKey_25 (by decide) ?_
    exact end_w hx hb hr (by rw [hex]; rfl) (by rw [hex]; rfl) (by rw [hex]; rfl) hI (by rw [if_pos hex]) hS dL_extendKey_26 hlk
  · have hI : IH D cy h0 (wO cy q A S f g) s H := hI
    rcases ran_extendKey hex with rfl | rfl | rfl
    · refine vx_catch (name := xIOB) hown [] ⟨0, 10, 13, 21⟩ [⟨0, 10, 17, 13⟩, ⟨0, 10, 21, 15⟩] (htb.trans rfl) (fun z hz => by
          cases hz) (by decide) (by decide) (hts (.classLink RL 21 "java/lang/IndexOutOfBoundsException") (List.mem_of_getElem? (i := 1) rfl)) (va_Nw.use rfl (hI.1.1.2.2.1 xIOB (List.mem_of_getElem? (i := 2) rfl))) hce hcv hcl ?_
      refine lv_astore (lv' := [(4, .ref q9), (0, .ref (q 0)), (1, .int key), (2, .int last), (3, .ref (q 19))]) hx hb dL_extendKey_13 hl (by decide) rfl (fun ls hl => ?_)
      refine lv_iconst (v := 1) hx hb dL_extendKey_15 (by decide) ?_
      exact end_w hx hb hr (by rw [hex]; decide) (by rw [hex]; rfl) (by rw [hex]; rfl) hI (by rw [if_neg (by rw [hex]; exact Option.some_ne_none _)]) hS dL_extendKey_16 hlk
    · refine vx_catch (name := xIAE) hown [⟨0, 10, 13, 21⟩] ⟨0, 10, 17, 13⟩ [⟨0, 10, 21, 15⟩] (htb.trans rfl) (fun z hz => by
          rcases List.mem_cons.mp hz with rfl | hz
          · exact Or.inr ⟨by decide, xIOB, (hts (.classLink RL 21 "java/lang/IndexOutOfBoundsException") (List.mem_of_getElem? (i := 1) rfl)), hI.1.1.2.2.2.2.1 (xIAE, xIOB) (List.mem_of_getElem? (i := 1) rfl)⟩
          cases hz) (by decide) (by decide) (hts (.classLink RL 13 "java/lang/IllegalArgumentException") (List.mem_of_getElem? (i := 2) rfl)) (va_Nw.use rfl (hI.1.1.2.2.1 xIAE (List.mem_of_getElem? (i := 0) rfl))) hce hcv hcl ?_
      refine lv_astore (lv' := [(4, .ref q9), (0, .ref (q 0)), (1, .int key), (2, .int last), (3, .ref (q 19))]) hx hb dL_extendKey_17 hl (by decide) rfl (fun ls hl => ?_)
      refine lv_iconst (v := 2) hx hb dL_extendKey_19 (by decide) ?_
      exact end_w hx hb hr (by rw [hex]; decide) (by rw [hex]; rfl) (by rw [hex]; rfl) hI (by rw [if_neg (by rw [hex]; exact Option.some_ne_none _)]) hS dL_extendKey_20 hlk
    · refine vx_catch (name := xISE) hown [⟨0, 10, 13, 21⟩, ⟨0, 10, 17, 13⟩] ⟨0, 10, 21, 15⟩ [] (htb.trans rfl) (fun z hz => by
          rcases List.mem_cons.mp hz with rfl | hz
          · exact Or.inr ⟨by decide, xIOB, (hts (.classLink RL 21 "java/lang/IndexOutOfBoundsException") (List.mem_of_getElem? (i := 1) rfl)), hI.1.1.2.2.2.2.1 (xISE, xIOB) (List.mem_of_getElem? (i := 5) rfl)⟩
          rcases List.mem_cons.mp hz with rfl | hz
          · exact Or.inr ⟨by decide, xIAE, (hts (.classLink RL 13 "java/lang/IllegalArgumentException") (List.mem_of_getElem? (i := 2) rfl)), hI.1.1.2.2.2.2.1 (xISE, xIAE) (List.mem_of_getElem? (i := 4) rfl)⟩
          cases hz) (by decide) (by decide) (hts (.classLink RL 15 "java/lang/IllegalStateException") (List.mem_of_getElem? (i := 3) rfl)) (va_Nw.use rfl (hI.1.1.2.2.1 xISE (List.mem_of_getElem? (i := 1) rfl))) hce hcv hcl ?_
      refine lv_astore (lv' := [(4, .ref q9), (0, .ref (q 0)), (1, .int key), (2, .int last), (3, .ref (q 19))]) hx hb dL_extendKey_21 hl (by decide) rfl (fun ls hl => ?_)
      refine lv_iconst (v := 3) hx hb dL_extendKey_23 (by decide) ?_
      exact end_w hx hb hr (by rw [hex]; decide) (by rw [hex]; rfl) (by rw [hex]; rfl) hI (by rw [if_neg (by rw [hex]; exact Option.some_ne_none _)]) hS dL_extendKey_24 hlk
theorem ran_isLive {key : Int32} {nk : Nat} {E : String} (h : exR key nk xIOB = some E) : E = xIOB := by
  revert h
  unfold exR
  repeat' split
  all_goals (intro h; first | (cases h; done) | (injection h with h; subst h; simp))
set_option maxHeartbeats 4000000 in
set_option maxRecDepth 100000 in
theorem c_L_isLive (l : Launch) (hst : l.stackTraces = false) (D : va_G) (cy : Nat → ClassId) (h0 : Nat) (q : Nat → Nat) (A : Nat → Nat → Int32) (S : Nat → Int32) (f : Nat → Int64) (g : Nat → UInt64) (key : Int32) (nk : Nat) (hnk : nk ≤ 8) (hck : S 3 = nI nk) : Met l yL_isLive wsL_isLive (rmX (exR key nk xIOB) 8 124) (va_Pc [.ref (q 0), .int key, .ref (q 19)] (pI D cy h0 (wO cy q A S f g))) (rwI (cd [xIOB] (exR key nk xIOB)) D cy h0 (if exR key nk xIOB = none then wO cy q A S (vp_updL f 0 ((bI (liveB A S (ix key) (S 1))).toInt64)) g else wO cy q A S f g) (qA 21 q)) (c1 (exR key nk xIOB)) (c6 (exR key nk xIOB)) (qA 21 q) := by
  refine va_MetW (cc := cL_isLive) (maxL := 4) (ret := some .int) (by decide) rfl ?_
  intro p e s m args below meth c s₁ B hml hv
  obtain ⟨rfl, hI⟩ := hv
  have hx := B.exec
  have hb := B.bytes
  have hr := B.returns
  have hts := atoms_spec (ws := wsL_isLive) B.pre
  have hown : s.vm.findClass RL = some m.cls := findClass_of_methodNamed B.named
  have hlk := B.notSynchronized
  have htb := vx_table (x := yL_isLive) B (hts _ List.mem_cons_self)
  have hI : IH D cy h0 (wO cy q A S f g) s s.heap := hI
  have hqA := hA_O hI
  have hh0 : h0 ≤ s.heap.size := hI.1.2.2.2
  have hS : va_S (qA 21 q) s.heap s.heap [] := va_S.rf
  have hl := lv_entry ([.ref (q 0), .int key, .ref (q 19)]) (n := 4) (Nat.le_of_ble_eq_true rfl)
  rw [lg_entry_eq]
  generalize (lg_sl ([.ref (q 0), .int key, .ref (q 19)]) ++ List.replicate (4 - (lg_sl ([.ref (q 0), .int key, .ref (q 19)])).length) Slot.unset).toArray = ls at hl ⊢
  have hl : lv_has ls 4 [(0, .ref (q 0)), (1, .int key), (2, .ref (q 19))] := hl
  refine lv_aload_n hx hb dL_isLive_0 rfl (lv_at hl 2 rfl) ?_
  refine lv_iconst (v := 0) hx hb dL_isLive_1 (by decide) ?_
  refine lv_aload_n hx hb dL_isLive_2 rfl (lv_at hl 0 rfl) ?_
  refine lv_iload_n hx hb dL_isLive_3 rfl (lv_at hl 1 rfl) ?_
  refine wc_o_i (vx_runV (As := [.int key]) (rest := [.int 0, .ref (q 19)]) ⟨hx, hb, hml, hown, hts⟩ (c_X3_isLive l hst D cy h0 q A S key nk hnk hck) (cwV 1 hts gL_isLive_X3_isLive rfl rfl rfl (by decide +kernel) ⟨Nat.le_of_ble_eq_true rfl, Nat.le_of_ble_eq_true rfl⟩) ((IH.left hI).preV (k0 := 0) rfl rfl) rfl rfl hl.1 rfl (lv_room (Nat.le_of_ble_eq_true rfl)) dL_isLive_4 ⟨Nat.le_of_eq (Nat.zero_add _), Nat.le_of_eq (Nat.zero_add _)⟩) hI hS (fun hex H locs hI hS => ?_) (fun E hex ce q9 H locs hI hS hce hcv hcl => ?_)
  · have hI : IH D cy h0 (wO cy q A S f g) s H := hI
    refine r_ifeq_b (tgt := 14) hx hb dL_isLive_7 (by decide) (fun hB => ?_) (fun hB => ?_)
    · refine lv_lconst (v := 0) hx hb dL_isLive_14 (by decide) ?_
      refine r_last (w' := wO cy q A S (vp_updL f 0 (0)) g) (q0 := 19) hx hb hI hS hqA hh0 (qA_O hI) rfl rfl dL_isLive_15 rfl (fun H locs hI hS => ?_)
      refine lv_goto (tgt := 22) hx hb dL_isLive_16 (by decide) ?_
      refine lv_iconst (v := 0) hx hb dL_isLive_22 (by decide) ?_
      exact end_w hx hb hr (by rw [hex]; rfl) (by rw [hex]; rfl) (by rw [hex]; rfl) hI (by rw [if_pos hex, hB]; rfl) hS dL_isLive_23 hlk
    · refine lv_lconst (v := 1) hx hb dL_isLive_10 (by decide) ?_
      refine lv_goto (tgt := 15) hx hb dL_isLive_11 (by decide) ?_
      refine r_last (w' := wO cy q A S (vp_updL f 0 (1)) g) (q0 := 19) hx hb hI hS hqA hh0 (qA_O hI) rfl rfl dL_isLive_15 rfl (fun H locs hI hS => ?_)
      refine lv_goto (tgt := 22) hx hb dL_isLive_16 (by decide) ?_
      refine lv_iconst (v := 0) hx hb dL_isLive_22 (by decide) ?_
      exact end_w hx hb hr (by rw [hex]; rfl) (by rw [hex]; rfl) (by rw [hex]; rfl) hI (by rw [if_pos hex, hB]; rfl) hS dL_isLive_23 hlk
  · have hI : IH D cy h0 (wO cy q A S f g) s H := hI
    obtain rfl := ran_isLive hex
    refine vx_catch (name := xIOB) hown [] ⟨0, 16, 19, 21⟩ [] (htb.trans rfl) (fun z hz => by
        cases hz) (by decide) (by decide) (hts (.classLink RL 21 "java/lang/IndexOutOfBoundsException") (List.mem_of_getElem? (i := 1) rfl)) (va_Nw.use rfl (hI.1.1.2.2.1 xIOB (List.mem_of_getElem? (i := 2) rfl))) hce hcv hcl ?_
    refine lv_astore_n (lv' := [(3, .ref q9), (0, .ref (q 0)), (1, .int key), (2, .ref (q 19))]) hx hb dL_isLive_19 rfl hl (by decide) rfl (fun ls hl => ?_)
    refine lv_iconst (v := 1) hx hb dL_isLive_20 (by decide) ?_
    exact end_w hx hb hr (by rw [hex]; decide) (by rw [hex]; rfl) (by rw [hex]; rfl) hI (by rw [if_neg (by rw [hex]; exact Option.some_ne_none _)]) hS dL_isLive_21 hlk
theorem ran_setWeight {signer : Int32} {weight : Int32} {E : String} (h : exSetWeight signer weight = some E) : E = xIAE := by
  revert h
  unfold exSetWeight
  repeat' split
  all_goals (intro h; first | (cases h; done) | (injection h with h; subst h; simp))
set_option maxHeartbeats 4000000 in
set_option maxRecDepth 100000 in
theorem c_L_setWeight (l : Launch) (hst : l.stackTraces = false) (D : va_G) (cy : Nat → ClassId) (h0 : Nat) (q : Nat → Nat) (A : Nat → Nat → Int32) (S : Nat → Int32) (f : Nat → Int64) (g : Nat → UInt64) (signer : Int32) (weight : Int32) : Met l yL_setWeight wsL_setWeight (rmX (exSetWeight signer weight) 8 126) (va_Pc [.ref (q 0), .int signer, .int weight, .ref (q 19)] (pI D cy h0 (wO cy q A S f g))) (rwI (cd [xIAE] (exSetWeight signer weight)) D cy h0 (if exSetWeight signer weight = none then wO cy q (uA A 0 (upd (A 0) (ix signer) weight)) S (vp_updL f 0 ((A 0 (ix signer)).toInt64)) g else wO cy q A S f g) (qA 21 q)) (c1 (exSetWeight signer weight)) (c6 (exSetWeight signer weight)) (qA 21 q) := by
  refine va_MetW (cc := cL_setWeight) (maxL := 5) (ret := some .int) (by decide) rfl ?_
  intro p e s m args below meth c s₁ B hml hv
  obtain ⟨rfl, hI⟩ := hv
  have hx := B.exec
  have hb := B.bytes
  have hr := B.returns
  have hts := atoms_spec (ws := wsL_setWeight) B.pre
  have hown : s.vm.findClass RL = some m.cls := findClass_of_methodNamed B.named
  have hlk := B.notSynchronized
  have htb := vx_table (x := yL_setWeight) B (hts _ List.mem_cons_self)
  have hI : IH D cy h0 (wO cy q A S f g) s s.heap := hI
  have hqA := hA_O hI
  have hh0 : h0 ≤ s.heap.size := hI.1.2.2.2
  have hS : va_S (qA 21 q) s.heap s.heap [] := va_S.rf
  have hl := lv_entry ([.ref (q 0), .int signer, .int weight, .ref (q 19)]) (n := 5) (Nat.le_of_ble_eq_true rfl)
  rw [lg_entry_eq]
  generalize (lg_sl ([.ref (q 0), .int signer, .int weight, .ref (q 19)]) ++ List.replicate (5 - (lg_sl ([.ref (q 0), .int signer, .int weight, .ref (q 19)])).length) Slot.unset).toArray = ls at hl ⊢
  have hl : lv_has ls 5 [(0, .ref (q 0)), (1, .int signer), (2, .int weight), (3, .ref (q 19))] := hl
  refine lv_aload_n hx hb dL_setWeight_0 rfl (lv_at hl 3 rfl) ?_
  refine lv_iconst (v := 0) hx hb dL_setWeight_1 (by decide) ?_
  refine lv_aload_n hx hb dL_setWeight_2 rfl (lv_at hl 0 rfl) ?_
  refine lv_iload_n hx hb dL_setWeight_3 rfl (lv_at hl 1 rfl) ?_
  refine lv_iload_n hx hb dL_setWeight_4 rfl (lv_at hl 2 rfl) ?_
  refine wc_w_i (w1' := wX cy q (uA A 0 (upd (A 0) (ix signer) weight)) S) (vx_runV (As := [.int signer, .int weight]) (rest := [.int 0, .ref (q 19)]) ⟨hx, hb, hml, hown, hts⟩ (c_X3_setWeight l hst D cy h0 q A S signer weight ) (cwV 2 hts gL_setWeight_X3_setWeight rfl rfl rfl (by decide +kernel) ⟨Nat.le_of_ble_eq_true rfl, Nat.le_of_ble_eq_true rfl⟩) ((IH.left hI).preV (k0 := 0) rfl rfl) rfl rfl hl.1 rfl (lv_room (Nat.le_of_ble_eq_true rfl)) dL_setWeight_5 ⟨Nat.le_of_eq (Nat.zero_add _), Nat.le_of_eq (Nat.zero_add _)⟩) hI hS q19 rfl in_X (fun hex H locs hI hS => ?_) (fun E hex ce q9 H locs hI hS hce hcv hcl => ?_)
  · have hI : IH D cy h0 (wO cy q (uA A 0 (upd (A 0) (ix signer) weight)) S f g) s H := hI
    refine lv_i2l hx hb dL_setWeight_8 rfl ?_
    refine r_last (w' := wO cy q (uA A 0 (upd (A 0) (ix signer) weight)) S (vp_updL f 0 ((A 0 (ix signer)).toInt64)) g) (q0 := 19) hx hb hI hS hqA hh0 (qA_O hI) rfl rfl dL_setWeight_9 rfl (fun H locs hI hS => ?_)
    refine lv_goto (tgt := 17) hx hb dL_setWeight_10 (by decide) ?_
    refine lv_iconst (v := 0) hx hb dL_setWeight_17 (by decide) ?_
    exact end_w hx hb hr (by rw [hex]; rfl) (by rw [hex]; rfl) (by rw [hex]; rfl) hI (by rw [if_pos hex]) hS dL_setWeight_18 hlk
  · have hI : IH D cy h0 (wO cy q A S f g) s H := hI
    obtain rfl := ran_setWeight hex
    refine vx_catch (name := xIAE) hown [] ⟨0, 10, 13, 13⟩ [] (htb.trans rfl) (fun z hz => by
        cases hz) (by decide) (by decide) (hts (.classLink RL 13 "java/lang/IllegalArgumentException") (List.mem_of_getElem? (i := 1) rfl)) (va_Nw.use rfl (hI.1.1.2.2.1 xIAE (List.mem_of_getElem? (i := 0) rfl))) hce hcv hcl ?_
    refine lv_astore (lv' := [(4, .ref q9), (0, .ref (q 0)), (1, .int signer), (2, .int weight), (3, .ref (q 19))]) hx hb dL_setWeight_13 hl (by decide) rfl (fun ls hl => ?_)
    refine lv_iconst (v := 1) hx hb dL_setWeight_15 (by decide) ?_
    exact end_w hx hb hr (by rw [hex]; decide) (by rw [hex]; rfl) (by rw [hex]; rfl) hI (by rw [if_neg (by rw [hex]; exact Option.some_ne_none _)]) hS dL_setWeight_16 hlk
theorem ran_setThreshold {name : Int32} {thr : Int32} {E : String} (h : exSetThr name thr = some E) : E = xIAE := by
  revert h
  unfold exSetThr
  repeat' split
  all_goals (intro h; first | (cases h; done) | (injection h with h; subst h; simp))
set_option maxHeartbeats 4000000 in
set_option maxRecDepth 100000 in
theorem c_L_setThreshold (l : Launch) (hst : l.stackTraces = false) (D : va_G) (cy : Nat → ClassId) (h0 : Nat) (q : Nat → Nat) (A : Nat → Nat → Int32) (S : Nat → Int32) (f : Nat → Int64) (g : Nat → UInt64) (name : Int32) (thr : Int32) : Met l yL_setThreshold wsL_setThreshold (rmX (exSetThr name thr) 8 126) (va_Pc [.ref (q 0), .int name, .int thr, .ref (q 19)] (pI D cy h0 (wO cy q A S f g))) (rwI (cd [xIAE] (exSetThr name thr)) D cy h0 (if exSetThr name thr = none then wO cy q (uA A 1 (upd (A 1) (ix name) thr)) S (vp_updL f 0 ((A 1 (ix name)).toInt64)) g else wO cy q A S f g) (qA 21 q)) (c1 (exSetThr name thr)) (c6 (exSetThr name thr)) (qA 21 q) := by
  refine va_MetW (cc := cL_setThreshold) (maxL := 5) (ret := some .int) (by decide) rfl ?_
  intro p e s m args below meth c s₁ B hml hv
  obtain ⟨rfl, hI⟩ := hv
  have hx := B.exec
  have hb := B.bytes
  have hr := B.returns
  have hts := atoms_spec (ws := wsL_setThreshold) B.pre
  have hown : s.vm.findClass RL = some m.cls := findClass_of_methodNamed B.named
  have hlk := B.notSynchronized
  have htb := vx_table (x := yL_setThreshold) B (hts _ List.mem_cons_self)
  have hI : IH D cy h0 (wO cy q A S f g) s s.heap := hI
  have hqA := hA_O hI
  have hh0 : h0 ≤ s.heap.size := hI.1.2.2.2
  have hS : va_S (qA 21 q) s.heap s.heap [] := va_S.rf
  have hl := lv_entry ([.ref (q 0), .int name, .int thr, .ref (q 19)]) (n := 5) (Nat.le_of_ble_eq_true rfl)
  rw [lg_entry_eq]
  generalize (lg_sl ([.ref (q 0), .int name, .int thr, .ref (q 19)]) ++ List.replicate (5 - (lg_sl ([.ref (q 0), .int name, .int thr, .ref (q 19)])).length) Slot.unset).toArray = ls at hl ⊢
  have hl : lv_has ls 5 [(0, .ref (q 0)), (1, .int name), (2, .int thr), (3, .ref (q 19))] := hl
  refine lv_aload_n hx hb dL_setThreshold_0 rfl (lv_at hl 3 rfl) ?_
  refine lv_iconst (v := 0) hx hb dL_setThreshold_1 (by decide) ?_
  refine lv_aload_n hx hb dL_setThreshold_2 rfl (lv_at hl 0 rfl) ?_
  refine lv_iload_n hx hb dL_setThreshold_3 rfl (lv_at hl 1 rfl) ?_
  refine lv_iload_n hx hb dL_setThreshold_4 rfl (lv_at hl 2 rfl) ?_
  refine wc_w_i (w1' := wX cy q (uA A 1 (upd (A 1) (ix name) thr)) S) (vx_runV (As := [.int name, .int thr]) (rest := [.int 0, .ref (q 19)]) ⟨hx, hb, hml, hown, hts⟩ (c_X3_setThreshold l hst D cy h0 q A S name thr ) (cwV 2 hts gL_setThreshold_X3_setThreshold rfl rfl rfl (by decide +kernel) ⟨Nat.le_of_ble_eq_true rfl, Nat.le_of_ble_eq_true rfl⟩) ((IH.left hI).preV (k0 := 0) rfl rfl) rfl rfl hl.1 rfl (lv_room (Nat.le_of_ble_eq_true rfl)) dL_setThreshold_5 ⟨Nat.le_of_eq (Nat.zero_add _), Nat.le_of_eq (Nat.zero_add _)⟩) hI hS q19 rfl in_X (fun hex H locs hI hS => ?_) (fun E hex ce q9 H locs hI hS hce hcv hcl => ?_)
  · have hI : IH D cy h0 (wO cy q (uA A 1 (upd (A 1) (ix name) thr)) S f g) s H := hI
    refine lv_i2l hx hb dL_setThreshold_8 rfl ?_
    refine r_last (w' := wO cy q (uA A 1 (upd (A 1) (ix name) thr)) S (vp_updL f 0 ((A 1 (ix name)).toInt64)) g) (q0 := 19) hx hb hI hS hqA hh0 (qA_O hI) rfl rfl dL_setThreshold_9 rfl (fun H locs hI hS => ?_)
    refine lv_goto (tgt := 17) hx hb dL_setThreshold_10 (by decide) ?_
    refine lv_iconst (v := 0) hx hb dL_setThreshold_17 (by decide) ?_
    exact end_w hx hb hr (by rw [hex]; rfl) (by rw [hex]; rfl) (by rw [hex]; rfl) hI (by rw [if_pos hex]) hS dL_setThreshold_18 hlk
  · have hI : IH D cy h0 (wO cy q A S f g) s H := hI
    obtain rfl := ran_setThreshold hex
    refine vx_catch (name := xIAE) hown [] ⟨0, 10, 13, 13⟩ [] (htb.trans rfl) (fun z hz => by
        cases hz) (by decide) (by decide) (hts (.classLink RL 13 "java/lang/IllegalArgumentException") (List.mem_of_getElem? (i := 1) rfl)) (va_Nw.use rfl (hI.1.1.2.2.1 xIAE (List.mem_of_getElem? (i := 0) rfl))) hce hcv hcl ?_
    refine lv_astore (lv' := [(4, .ref q9), (0, .ref (q 0)), (1, .int name), (2, .int thr), (3, .ref (q 19))]) hx hb dL_setThreshold_13 hl (by decide) rfl (fun ls hl => ?_)
    refine lv_iconst (v := 1) hx hb dL_setThreshold_15 (by decide) ?_
    exact end_w hx hb hr (by rw [hex]; decide) (by rw [hex]; rfl) (by rw [hex]; rfl) hI (by rw [if_neg (by rw [hex]; exact Option.some_ne_none _)]) hS dL_setThreshold_16 hlk
theorem ran_build {A : Nat → Nat → Int32} {S : Nat → Int32} {name : Int32} {inputs : Int32} {nb : Nat} {E : String} (h : exBuild A S name inputs nb = some E) : E = xIAE ∨ E = xUOE ∨ E = xISE := by
  revert h
  unfold exBuild
  repeat' split
  all_goals (intro h; first | (cases h; done) | (injection h with h; subst h; simp))
set_option maxHeartbeats 4000000 in
set_option maxRecDepth 100000 in
theorem c_L_build (l : Launch) (hst : l.stackTraces = false) (D : va_G) (cy : Nat → ClassId) (h0 : Nat) (q : Nat → Nat) (A : Nat → Nat → Int32) (S : Nat → Int32) (f : Nat → Int64) (g : Nat → UInt64) (name : Int32) (inputs : Int32) (res : Int32) (nb : Nat) (hnb : nb ≤ 24) (hcb : S 5 = nI nb) : Met l yL_build wsL_build (rmX (exBuild A S name inputs nb) 8 126) (va_Pc [.ref (q 0), .int name, .int inputs, .int res, .ref (q 19)] (pI D cy h0 (wO cy q A S f g))) (rwI (cd [xIAE, xUOE, xISE] (exBuild A S name inputs nb)) D cy h0 (if exBuild A S name inputs nb = none then wO cy q (uA (uA (uA (uA A 5 (upd (A 5) nb name)) 6 (upd (A 6) nb (1 + cF (upd (A 5) nb name) name nb))) 7 (upd (A 7) nb (wtF (A 7) inputs nb))) 8 (upd (A 8) nb res)) (uS S 5 (S 5 + 1)) (vp_updL f 0 ((S 5).toInt64)) g else wO cy q A S f g) (qA 21 q)) (c1 (exBuild A S name inputs nb)) (c6 (exBuild A S name inputs nb)) (qA 21 q) := by
  refine va_MetW (cc := cL_build) (maxL := 6) (ret := some .int) (by decide) rfl ?_
  intro p e s m args below meth c s₁ B hml hv
  obtain ⟨rfl, hI⟩ := hv
  have hx := B.exec
  have hb := B.bytes
  have hr := B.returns
  have hts := atoms_spec (ws := wsL_build) B.pre
  have hown : s.vm.findClass RL = some m.cls := findClass_of_methodNamed B.named
  have hlk := B.notSynchronized
  have htb := vx_table (x := yL_build) B (hts _ List.mem_cons_self)
  have hI : IH D cy h0 (wO cy q A S f g) s s.heap := hI
  have hqA := hA_O hI
  have hh0 : h0 ≤ s.heap.size := hI.1.2.2.2
  have hS : va_S (qA 21 q) s.heap s.heap [] := va_S.rf
  have hl := lv_entry ([.ref (q 0), .int name, .int inputs, .int res, .ref (q 19)]) (n := 6) (Nat.le_of_ble_eq_true rfl)
  rw [lg_entry_eq]
  generalize (lg_sl ([.ref (q 0), .int name, .int inputs, .int res, .ref (q 19)]) ++ List.replicate (6 - (lg_sl ([.ref (q 0), .int name, .int inputs, .int res, .ref (q 19)])).length) Slot.unset).toArray = ls at hl ⊢
  have hl : lv_has ls 6 [(0, .ref (q 0)), (1, .int name), (2, .int inputs), (3, .int res), (4, .ref (q 19))] := hl
  refine lv_aload hx hb dL_build_0 (lv_at hl 4 rfl) ?_
  refine lv_iconst (v := 0) hx hb dL_build_2 (by decide) ?_
  refine lv_aload_n hx hb dL_build_3 rfl (lv_at hl 0 rfl) ?_
  refine lv_iload_n hx hb dL_build_4 rfl (lv_at hl 1 rfl) ?_
  refine lv_iload_n hx hb dL_build_5 rfl (lv_at hl 2 rfl) ?_
  refine lv_iload_n hx hb dL_build_6 rfl (lv_at hl 3 rfl) ?_
  refine wc_w_i (w1' := wX cy q (uA (uA (uA (uA A 5 (upd (A 5) nb name)) 6 (upd (A 6) nb (1 + cF (upd (A 5) nb name) name nb))) 7 (upd (A 7) nb (wtF (A 7) inputs nb))) 8 (upd (A 8) nb res)) (uS S 5 (S 5 + 1))) (vx_runV (As := [.int name, .int inputs, .int res]) (rest := [.int 0, .ref (q 19)]) ⟨hx, hb, hml, hown, hts⟩ (c_X3_build l hst D cy h0 q A S name inputs res nb hnb hcb) (cwV 3 hts gL_build_X3_build rfl rfl rfl (by decide +kernel) ⟨Nat.le_of_ble_eq_true rfl, Nat.le_of_ble_eq_true rfl⟩) ((IH.left hI).preV (k0 := 0) rfl rfl) rfl rfl hl.1 rfl (lv_room (Nat.le_of_ble_eq_true rfl)) dL_build_7 ⟨Nat.le_of_eq (Nat.zero_add _), Nat.le_of_eq (Nat.zero_add _)⟩) hI hS q19 rfl in_X (fun hex H locs hI hS => ?_) (fun E hex ce q9 H locs hI hS hce hcv hcl => ?_)
  · have hI : IH D cy h0 (wO cy q (uA (uA (uA (uA A 5 (upd (A 5) nb name)) 6 (upd (A 6) nb (1 + cF (upd (A 5) nb name) name nb))) 7 (upd (A 7) nb (wtF (A 7) inputs nb))) 8 (upd (A 8) nb res)) (uS S 5 (S 5 + 1)) f g) s H := hI
    refine lv_i2l hx hb dL_build_10 rfl ?_
    refine r_last (w' := wO cy q (uA (uA (uA (uA A 5 (upd (A 5) nb name)) 6 (upd (A 6) nb (1 + cF (upd (A 5) nb name) name nb))) 7 (upd (A 7) nb (wtF (A 7) inputs nb))) 8 (upd (A 8) nb res)) (uS S 5 (S 5 + 1)) (vp_updL f 0 ((S 5).toInt64)) g) (q0 := 19) hx hb hI hS hqA hh0 (qA_O hI) rfl rfl dL_build_11 rfl (fun H locs hI hS => ?_)
    refine lv_goto (tgt := 27) hx hb dL_build_12 (by decide) ?_
    refine lv_iconst (v := 0) hx hb dL_build_27 (by decide) ?_
    exact end_w hx hb hr (by rw [hex]; rfl) (by rw [hex]; rfl) (by rw [hex]; rfl) hI (by rw [if_pos hex]) hS dL_build_28 hlk
  · have hI : IH D cy h0 (wO cy q A S f g) s H := hI
    rcases ran_build hex with rfl | rfl | rfl
    · refine vx_catch (name := xIAE) hown [] ⟨0, 12, 15, 13⟩ [⟨0, 12, 19, 40⟩, ⟨0, 12, 23, 15⟩] (htb.trans rfl) (fun z hz => by
          cases hz) (by decide) (by decide) (hts (.classLink RL 13 "java/lang/IllegalArgumentException") (List.mem_of_getElem? (i := 1) rfl)) (va_Nw.use rfl (hI.1.1.2.2.1 xIAE (List.mem_of_getElem? (i := 0) rfl))) hce hcv hcl ?_
      refine lv_astore (lv' := [(5, .ref q9), (0, .ref (q 0)), (1, .int name), (2, .int inputs), (3, .int res), (4, .ref (q 19))]) hx hb dL_build_15 hl (by decide) rfl (fun ls hl => ?_)
      refine lv_iconst (v := 1) hx hb dL_build_17 (by decide) ?_
      exact end_w hx hb hr (by rw [hex]; decide) (by rw [hex]; rfl) (by rw [hex]; rfl) hI (by rw [if_neg (by rw [hex]; exact Option.some_ne_none _)]) hS dL_build_18 hlk
    · refine vx_catch (name := xUOE) hown [⟨0, 12, 15, 13⟩] ⟨0, 12, 19, 40⟩ [⟨0, 12, 23, 15⟩] (htb.trans rfl) (fun z hz => by
          rcases List.mem_cons.mp hz with rfl | hz
          · exact Or.inr ⟨by decide, xIAE, (hts (.classLink RL 13 "java/lang/IllegalArgumentException") (List.mem_of_getElem? (i := 1) rfl)), hI.1.1.2.2.2.2.1 (xUOE, xIAE) (List.mem_of_getElem? (i := 12) rfl)⟩
          cases hz) (by decide) (by decide) (hts (.classLink RL 40 "java/lang/UnsupportedOperationException") (List.mem_of_getElem? (i := 2) rfl)) (va_Nw.use rfl (hI.1.1.2.2.1 xUOE (List.mem_of_getElem? (i := 3) rfl))) hce hcv hcl ?_
      refine lv_astore (lv' := [(5, .ref q9), (0, .ref (q 0)), (1, .int name), (2, .int inputs), (3, .int res), (4, .ref (q 19))]) hx hb dL_build_19 hl (by decide) rfl (fun ls hl => ?_)
      refine lv_iconst (v := 2) hx hb dL_build_21 (by decide) ?_
      exact end_w hx hb hr (by rw [hex]; decide) (by rw [hex]; rfl) (by rw [hex]; rfl) hI (by rw [if_neg (by rw [hex]; exact Option.some_ne_none _)]) hS dL_build_22 hlk
    · refine vx_catch (name := xISE) hown [⟨0, 12, 15, 13⟩, ⟨0, 12, 19, 40⟩] ⟨0, 12, 23, 15⟩ [] (htb.trans rfl) (fun z hz => by
          rcases List.mem_cons.mp hz with rfl | hz
          · exact Or.inr ⟨by decide, xIAE, (hts (.classLink RL 13 "java/lang/IllegalArgumentException") (List.mem_of_getElem? (i := 1) rfl)), hI.1.1.2.2.2.2.1 (xISE, xIAE) (List.mem_of_getElem? (i := 4) rfl)⟩
          rcases List.mem_cons.mp hz with rfl | hz
          · exact Or.inr ⟨by decide, xUOE, (hts (.classLink RL 40 "java/lang/UnsupportedOperationException") (List.mem_of_getElem? (i := 2) rfl)), hI.1.1.2.2.2.2.1 (xISE, xUOE) (List.mem_of_getElem? (i := 6) rfl)⟩
          cases hz) (by decide) (by decide) (hts (.classLink RL 15 "java/lang/IllegalStateException") (List.mem_of_getElem? (i := 3) rfl)) (va_Nw.use rfl (hI.1.1.2.2.1 xISE (List.mem_of_getElem? (i := 1) rfl))) hce hcv hcl ?_
      refine lv_astore (lv' := [(5, .ref q9), (0, .ref (q 0)), (1, .int name), (2, .int inputs), (3, .int res), (4, .ref (q 19))]) hx hb dL_build_23 hl (by decide) rfl (fun ls hl => ?_)
      refine lv_iconst (v := 3) hx hb dL_build_25 (by decide) ?_
      exact end_w hx hb hr (by rw [hex]; decide) (by rw [hex]; rfl) (by rw [hex]; rfl) hI (by rw [if_neg (by rw [hex]; exact Option.some_ne_none _)]) hS dL_build_26 hlk
theorem ran_nameOf {b : Int32} {nb : Nat} {E : String} (h : exR b nb xIOB = some E) : E = xIOB := by
  revert h
  unfold exR
  repeat' split
  all_goals (intro h; first | (cases h; done) | (injection h with h; subst h; simp))
set_option maxHeartbeats 4000000 in
set_option maxRecDepth 100000 in
theorem c_L_nameOf (l : Launch) (hst : l.stackTraces = false) (D : va_G) (cy : Nat → ClassId) (h0 : Nat) (q : Nat → Nat) (A : Nat → Nat → Int32) (S : Nat → Int32) (f : Nat → Int64) (g : Nat → UInt64) (b : Int32) (nb : Nat) (hnb : nb ≤ 24) (hcb : S 5 = nI nb) : Met l yL_nameOf wsL_nameOf (rmX (exR b nb xIOB) 8 124) (va_Pc [.ref (q 0), .int b, .ref (q 19)] (pI D cy h0 (wO cy q A S f g))) (rwI (cd [xIOB] (exR b nb xIOB)) D cy h0 (if exR b nb xIOB = none then wO cy q A S (vp_updL f 0 ((A 5 (ix b)).toInt64)) g else wO cy q A S f g) (qA 21 q)) (c1 (exR b nb xIOB)) (c6 (exR b nb xIOB)) (qA 21 q) := by
  refine va_MetW (cc := cL_nameOf) (maxL := 4) (ret := some .int) (by decide) rfl ?_
  intro p e s m args below meth c s₁ B hml hv
  obtain ⟨rfl, hI⟩ := hv
  have hx := B.exec
  have hb := B.bytes
  have hr := B.returns
  have hts := atoms_spec (ws := wsL_nameOf) B.pre
  have hown : s.vm.findClass RL = some m.cls := findClass_of_methodNamed B.named
  have hlk := B.notSynchronized
  have htb := vx_table (x := yL_nameOf) B (hts _ List.mem_cons_self)
  have hI : IH D cy h0 (wO cy q A S f g) s s.heap := hI
  have hqA := hA_O hI
  have hh0 : h0 ≤ s.heap.size := hI.1.2.2.2
  have hS : va_S (qA 21 q) s.heap s.heap [] := va_S.rf
  have hl := lv_entry ([.ref (q 0), .int b, .ref (q 19)]) (n := 4) (Nat.le_of_ble_eq_true rfl)
  rw [lg_entry_eq]
  generalize (lg_sl ([.ref (q 0), .int b, .ref (q 19)]) ++ List.replicate (4 - (lg_sl ([.ref (q 0), .int b, .ref (q 19)])).length) Slot.unset).toArray = ls at hl ⊢
  have hl : lv_has ls 4 [(0, .ref (q 0)), (1, .int b), (2, .ref (q 19))] := hl
  refine lv_aload_n hx hb dL_nameOf_0 rfl (lv_at hl 2 rfl) ?_
  refine lv_iconst (v := 0) hx hb dL_nameOf_1 (by decide) ?_
  refine lv_aload_n hx hb dL_nameOf_2 rfl (lv_at hl 0 rfl) ?_
  refine lv_iload_n hx hb dL_nameOf_3 rfl (lv_at hl 1 rfl) ?_
  refine wc_o_i (vx_runV (As := [.int b]) (rest := [.int 0, .ref (q 19)]) ⟨hx, hb, hml, hown, hts⟩ (c_X3_nameOf l hst D cy h0 q A S b nb hnb hcb) (cwV 1 hts gL_nameOf_X3_nameOf rfl rfl rfl (by decide +kernel) ⟨Nat.le_of_ble_eq_true rfl, Nat.le_of_ble_eq_true rfl⟩) ((IH.left hI).preV (k0 := 0) rfl rfl) rfl rfl hl.1 rfl (lv_room (Nat.le_of_ble_eq_true rfl)) dL_nameOf_4 ⟨Nat.le_of_eq (Nat.zero_add _), Nat.le_of_eq (Nat.zero_add _)⟩) hI hS (fun hex H locs hI hS => ?_) (fun E hex ce q9 H locs hI hS hce hcv hcl => ?_)
  · have hI : IH D cy h0 (wO cy q A S f g) s H := hI
    refine lv_i2l hx hb dL_nameOf_7 rfl ?_
    refine r_last (w' := wO cy q A S (vp_updL f 0 ((A 5 (ix b)).toInt64)) g) (q0 := 19) hx hb hI hS hqA hh0 (qA_O hI) rfl rfl dL_nameOf_8 rfl (fun H locs hI hS => ?_)
    refine lv_goto (tgt := 15) hx hb dL_nameOf_9 (by decide) ?_
    refine lv_iconst (v := 0) hx hb dL_nameOf_15 (by decide) ?_
    exact end_w hx hb hr (by rw [hex]; rfl) (by rw [hex]; rfl) (by rw [hex]; rfl) hI (by rw [if_pos hex]) hS dL_nameOf_16 hlk
  · have hI : IH D cy h0 (wO cy q A S f g) s H := hI
    obtain rfl := ran_nameOf hex
    refine vx_catch (name := xIOB) hown [] ⟨0, 9, 12, 21⟩ [] (htb.trans rfl) (fun z hz => by
        cases hz) (by decide) (by decide) (hts (.classLink RL 21 "java/lang/IndexOutOfBoundsException") (List.mem_of_getElem? (i := 1) rfl)) (va_Nw.use rfl (hI.1.1.2.2.1 xIOB (List.mem_of_getElem? (i := 2) rfl))) hce hcv hcl ?_
    refine lv_astore_n (lv' := [(3, .ref q9), (0, .ref (q 0)), (1, .int b), (2, .ref (q 19))]) hx hb dL_nameOf_12 rfl hl (by decide) rfl (fun ls hl => ?_)
    refine lv_iconst (v := 1) hx hb dL_nameOf_13 (by decide) ?_
    exact end_w hx hb hr (by rw [hex]; decide) (by rw [hex]; rfl) (by rw [hex]; rfl) hI (by rw [if_neg (by rw [hex]; exact Option.some_ne_none _)]) hS dL_nameOf_14 hlk
theorem ran_version {b : Int32} {nb : Nat} {E : String} (h : exR b nb xIOB = some E) : E = xIOB := by
  revert h
  unfold exR
  repeat' split
  all_goals (intro h; first | (cases h; done) | (injection h with h; subst h; simp))
set_option maxHeartbeats 4000000 in
set_option maxRecDepth 100000 in
theorem c_L_version (l : Launch) (hst : l.stackTraces = false) (D : va_G) (cy : Nat → ClassId) (h0 : Nat) (q : Nat → Nat) (A : Nat → Nat → Int32) (S : Nat → Int32) (f : Nat → Int64) (g : Nat → UInt64) (b : Int32) (nb : Nat) (hnb : nb ≤ 24) (hcb : S 5 = nI nb) : Met l yL_version wsL_version (rmX (exR b nb xIOB) 8 124) (va_Pc [.ref (q 0), .int b, .ref (q 19)] (pI D cy h0 (wO cy q A S f g))) (rwI (cd [xIOB] (exR b nb xIOB)) D cy h0 (if exR b nb xIOB = none then wO cy q A S (vp_updL f 0 ((A 6 (ix b)).toInt64)) g else wO cy q A S f g) (qA 21 q)) (c1 (exR b nb xIOB)) (c6 (exR b nb xIOB)) (qA 21 q) := by
  refine va_MetW (cc := cL_version) (maxL := 4) (ret := some .int) (by decide) rfl ?_
  intro p e s m args below meth c s₁ B hml hv
  obtain ⟨rfl, hI⟩ := hv
  have hx := B.exec
  have hb := B.bytes
  have hr := B.returns
  have hts := atoms_spec (ws := wsL_version) B.pre
  have hown : s.vm.findClass RL = some m.cls := findClass_of_methodNamed B.named
  have hlk := B.notSynchronized
  have htb := vx_table (x := yL_version) B (hts _ List.mem_cons_self)
  have hI : IH D cy h0 (wO cy q A S f g) s s.heap := hI
  have hqA := hA_O hI
  have hh0 : h0 ≤ s.heap.size := hI.1.2.2.2
  have hS : va_S (qA 21 q) s.heap s.heap [] := va_S.rf
  have hl := lv_entry ([.ref (q 0), .int b, .ref (q 19)]) (n := 4) (Nat.le_of_ble_eq_true rfl)
  rw [lg_entry_eq]
  generalize (lg_sl ([.ref (q 0), .int b, .ref (q 19)]) ++ List.replicate (4 - (lg_sl ([.ref (q 0), .int b, .ref (q 19)])).length) Slot.unset).toArray = ls at hl ⊢
  have hl : lv_has ls 4 [(0, .ref (q 0)), (1, .int b), (2, .ref (q 19))] := hl
  refine lv_aload_n hx hb dL_version_0 rfl (lv_at hl 2 rfl) ?_
  refine lv_iconst (v := 0) hx hb dL_version_1 (by decide) ?_
  refine lv_aload_n hx hb dL_version_2 rfl (lv_at hl 0 rfl) ?_
  refine lv_iload_n hx hb dL_version_3 rfl (lv_at hl 1 rfl) ?_
  refine wc_o_i (vx_runV (As := [.int b]) (rest := [.int 0, .ref (q 19)]) ⟨hx, hb, hml, hown, hts⟩ (c_X3_version l hst D cy h0 q A S b nb hnb hcb) (cwV 1 hts gL_version_X3_version rfl rfl rfl (by decide +kernel) ⟨Nat.le_of_ble_eq_true rfl, Nat.le_of_ble_eq_true rfl⟩) ((IH.left hI).preV (k0 := 0) rfl rfl) rfl rfl hl.1 rfl (lv_room (Nat.le_of_ble_eq_true rfl)) dL_version_4 ⟨Nat.le_of_eq (Nat.zero_add _), Nat.le_of_eq (Nat.zero_add _)⟩) hI hS (fun hex H locs hI hS => ?_) (fun E hex ce q9 H locs hI hS hce hcv hcl => ?_)
  · have hI : IH D cy h0 (wO cy q A S f g) s H := hI
    refine lv_i2l hx hb dL_version_7 rfl ?_
    refine r_last (w' := wO cy q A S (vp_updL f 0 ((A 6 (ix b)).toInt64)) g) (q0 := 19) hx hb hI hS hqA hh0 (qA_O hI) rfl rfl dL_version_8 rfl (fun H locs hI hS => ?_)
    refine lv_goto (tgt := 15) hx hb dL_version_9 (by decide) ?_
    refine lv_iconst (v := 0) hx hb dL_version_15 (by decide) ?_
    exact end_w hx hb hr (by rw [hex]; rfl) (by rw [hex]; rfl) (by rw [hex]; rfl) hI (by rw [if_pos hex]) hS dL_version_16 hlk
  · have hI : IH D cy h0 (wO cy q A S f g) s H := hI
    obtain rfl := ran_version hex
    refine vx_catch (name := xIOB) hown [] ⟨0, 9, 12, 21⟩ [] (htb.trans rfl) (fun z hz => by
        cases hz) (by decide) (by decide) (hts (.classLink RL 21 "java/lang/IndexOutOfBoundsException") (List.mem_of_getElem? (i := 1) rfl)) (va_Nw.use rfl (hI.1.1.2.2.1 xIOB (List.mem_of_getElem? (i := 2) rfl))) hce hcv hcl ?_
    refine lv_astore_n (lv' := [(3, .ref q9), (0, .ref (q 0)), (1, .int b), (2, .ref (q 19))]) hx hb dL_version_12 rfl hl (by decide) rfl (fun ls hl => ?_)
    refine lv_iconst (v := 1) hx hb dL_version_13 (by decide) ?_
    exact end_w hx hb hr (by rw [hex]; decide) (by rw [hex]; rfl) (by rw [hex]; rfl) hI (by rw [if_neg (by rw [hex]; exact Option.some_ne_none _)]) hS dL_version_14 hlk
theorem ran_uses {b : Int32} {o : Int32} {nb : Nat} {E : String} (h : exUses b o nb = some E) : E = xIOB := by
  revert h
  unfold exUses exR
  repeat' split
  all_goals (intro h; first | (cases h; done) | (injection h with h; subst h; simp))
set_option maxHeartbeats 4000000 in
set_option maxRecDepth 100000 in
theorem c_L_uses (l : Launch) (hst : l.stackTraces = false) (D : va_G) (cy : Nat → ClassId) (h0 : Nat) (q : Nat → Nat) (A : Nat → Nat → Int32) (S : Nat → Int32) (f : Nat → Int64) (g : Nat → UInt64) (b : Int32) (o : Int32) (nb : Nat) (hnb : nb ≤ 24) (hcb : S 5 = nI nb) : Met l yL_uses wsL_uses (rmX (exUses b o nb) 8 125) (va_Pc [.ref (q 0), .int b, .int o, .ref (q 19)] (pI D cy h0 (wO cy q A S f g))) (rwI (cd [xIOB] (exUses b o nb)) D cy h0 (if exUses b o nb = none then wO cy q A S (vp_updL f 0 ((bI (hold (A 7 (ix b)) o)).toInt64)) g else wO cy q A S f g) (qA 21 q)) (c1 (exUses b o nb)) (c6 (exUses b o nb)) (qA 21 q) := by
  refine va_MetW (cc := cL_uses) (maxL := 5) (ret := some .int) (by decide) rfl ?_
  intro p e s m args below meth c s₁ B hml hv
  obtain ⟨rfl, hI⟩ := hv
  have hx := B.exec
  have hb := B.bytes
  have hr := B.returns
  have hts := atoms_spec (ws := wsL_uses) B.pre
  have hown : s.vm.findClass RL = some m.cls := findClass_of_methodNamed B.named
  have hlk := B.notSynchronized
  have htb := vx_table (x := yL_uses) B (hts _ List.mem_cons_self)
  have hI : IH D cy h0 (wO cy q A S f g) s s.heap := hI
  have hqA := hA_O hI
  have hh0 : h0 ≤ s.heap.size := hI.1.2.2.2
  have hS : va_S (qA 21 q) s.heap s.heap [] := va_S.rf
  have hl := lv_entry ([.ref (q 0), .int b, .int o, .ref (q 19)]) (n := 5) (Nat.le_of_ble_eq_true rfl)
  rw [lg_entry_eq]
  generalize (lg_sl ([.ref (q 0), .int b, .int o, .ref (q 19)]) ++ List.replicate (5 - (lg_sl ([.ref (q 0), .int b, .int o, .ref (q 19)])).length) Slot.unset).toArray = ls at hl ⊢
  have hl : lv_has ls 5 [(0, .ref (q 0)), (1, .int b), (2, .int o), (3, .ref (q 19))] := hl
  refine lv_aload_n hx hb dL_uses_0 rfl (lv_at hl 3 rfl) ?_
  refine lv_iconst (v := 0) hx hb dL_uses_1 (by decide) ?_
  refine lv_aload_n hx hb dL_uses_2 rfl (lv_at hl 0 rfl) ?_
  refine lv_iload_n hx hb dL_uses_3 rfl (lv_at hl 1 rfl) ?_
  refine lv_iload_n hx hb dL_uses_4 rfl (lv_at hl 2 rfl) ?_
  refine wc_o_i (vx_runV (As := [.int b, .int o]) (rest := [.int 0, .ref (q 19)]) ⟨hx, hb, hml, hown, hts⟩ (c_X3_uses l hst D cy h0 q A S b o nb hnb hcb) (cwV 2 hts gL_uses_X3_uses rfl rfl rfl (by decide +kernel) ⟨Nat.le_of_ble_eq_true rfl, Nat.le_of_ble_eq_true rfl⟩) ((IH.left hI).preV (k0 := 0) rfl rfl) rfl rfl hl.1 rfl (lv_room (Nat.le_of_ble_eq_true rfl)) dL_uses_5 ⟨Nat.le_of_eq (Nat.zero_add _), Nat.le_of_eq (Nat.zero_add _)⟩) hI hS (fun hex H locs hI hS => ?_) (fun E hex ce q9 H locs hI hS hce hcv hcl => ?_)
  · have hI : IH D cy h0 (wO cy q A S f g) s H := hI
    refine r_ifeq_b (tgt := 15) hx hb dL_uses_8 (by decide) (fun hB => ?_) (fun hB => ?_)
    · refine lv_lconst (v := 0) hx hb dL_uses_15 (by decide) ?_
      refine r_last (w' := wO cy q A S (vp_updL f 0 (0)) g) (q0 := 19) hx hb hI hS hqA hh0 (qA_O hI) rfl rfl dL_uses_16 rfl (fun H locs hI hS => ?_)
      refine lv_goto (tgt := 24) hx hb dL_uses_17 (by decide) ?_
      refine lv_iconst (v := 0) hx hb dL_uses_24 (by decide) ?_
      exact end_w hx hb hr (by rw [hex]; rfl) (by rw [hex]; rfl) (by rw [hex]; rfl) hI (by rw [if_pos hex, hB]; rfl) hS dL_uses_25 hlk
    · refine lv_lconst (v := 1) hx hb dL_uses_11 (by decide) ?_
      refine lv_goto (tgt := 16) hx hb dL_uses_12 (by decide) ?_
      refine r_last (w' := wO cy q A S (vp_updL f 0 (1)) g) (q0 := 19) hx hb hI hS hqA hh0 (qA_O hI) rfl rfl dL_uses_16 rfl (fun H locs hI hS => ?_)
      refine lv_goto (tgt := 24) hx hb dL_uses_17 (by decide) ?_
      refine lv_iconst (v := 0) hx hb dL_uses_24 (by decide) ?_
      exact end_w hx hb hr (by rw [hex]; rfl) (by rw [hex]; rfl) (by rw [hex]; rfl) hI (by rw [if_pos hex, hB]; rfl) hS dL_uses_25 hlk
  · have hI : IH D cy h0 (wO cy q A S f g) s H := hI
    obtain rfl := ran_uses hex
    refine vx_catch (name := xIOB) hown [] ⟨0, 17, 20, 21⟩ [] (htb.trans rfl) (fun z hz => by
        cases hz) (by decide) (by decide) (hts (.classLink RL 21 "java/lang/IndexOutOfBoundsException") (List.mem_of_getElem? (i := 1) rfl)) (va_Nw.use rfl (hI.1.1.2.2.1 xIOB (List.mem_of_getElem? (i := 2) rfl))) hce hcv hcl ?_
    refine lv_astore (lv' := [(4, .ref q9), (0, .ref (q 0)), (1, .int b), (2, .int o), (3, .ref (q 19))]) hx hb dL_uses_20 hl (by decide) rfl (fun ls hl => ?_)
    refine lv_iconst (v := 1) hx hb dL_uses_22 (by decide) ?_
    exact end_w hx hb hr (by rw [hex]; decide) (by rw [hex]; rfl) (by rw [hex]; rfl) hI (by rw [if_neg (by rw [hex]; exact Option.some_ne_none _)]) hS dL_uses_23 hlk
theorem ran_used {b : Int32} {nb : Nat} {E : String} (h : exR b nb xIOB = some E) : E = xIOB := by
  revert h
  unfold exR
  repeat' split
  all_goals (intro h; first | (cases h; done) | (injection h with h; subst h; simp))
set_option maxHeartbeats 4000000 in
set_option maxRecDepth 100000 in
theorem c_L_used (l : Launch) (hst : l.stackTraces = false) (D : va_G) (cy : Nat → ClassId) (h0 : Nat) (q : Nat → Nat) (A : Nat → Nat → Int32) (S : Nat → Int32) (f : Nat → Int64) (g : Nat → UInt64) (b : Int32) (nb : Nat) (hnb : nb ≤ 24) (hcb : S 5 = nI nb) : Met l yL_used wsL_used (rmX (exR b nb xIOB) 8 124) (va_Pc [.ref (q 0), .int b, .ref (q 19)] (pI D cy h0 (wO cy q A S f g))) (rwI (cd [xIOB] (exR b nb xIOB)) D cy h0 (if exR b nb xIOB = none then wO cy q A S (vp_updL f 0 ((bcF (A 7 (ix b))).toInt64)) g else wO cy q A S f g) (qA 21 q)) (c1 (exR b nb xIOB)) (c6 (exR b nb xIOB)) (qA 21 q) := by
  refine va_MetW (cc := cL_used) (maxL := 4) (ret := some .int) (by decide) rfl ?_
  intro p e s m args below meth c s₁ B hml hv
  obtain ⟨rfl, hI⟩ := hv
  have hx := B.exec
  have hb := B.bytes
  have hr := B.returns
  have hts := atoms_spec (ws := wsL_used) B.pre
  have hown : s.vm.findClass RL = some m.cls := findClass_of_methodNamed B.named
  have hlk := B.notSynchronized
  have htb := vx_table (x := yL_used) B (hts _ List.mem_cons_self)
  have hI : IH D cy h0 (wO cy q A S f g) s s.heap := hI
  have hqA := hA_O hI
  have hh0 : h0 ≤ s.heap.size := hI.1.2.2.2
  have hS : va_S (qA 21 q) s.heap s.heap [] := va_S.rf
  have hl := lv_entry ([.ref (q 0), .int b, .ref (q 19)]) (n := 4) (Nat.le_of_ble_eq_true rfl)
  rw [lg_entry_eq]
  generalize (lg_sl ([.ref (q 0), .int b, .ref (q 19)]) ++ List.replicate (4 - (lg_sl ([.ref (q 0), .int b, .ref (q 19)])).length) Slot.unset).toArray = ls at hl ⊢
  have hl : lv_has ls 4 [(0, .ref (q 0)), (1, .int b), (2, .ref (q 19))] := hl
  refine lv_aload_n hx hb dL_used_0 rfl (lv_at hl 2 rfl) ?_
  refine lv_iconst (v := 0) hx hb dL_used_1 (by decide) ?_
  refine lv_aload_n hx hb dL_used_2 rfl (lv_at hl 0 rfl) ?_
  refine lv_iload_n hx hb dL_used_3 rfl (lv_at hl 1 rfl) ?_
  refine wc_o_i (vx_runV (As := [.int b]) (rest := [.int 0, .ref (q 19)]) ⟨hx, hb, hml, hown, hts⟩ (c_X3_used l hst D cy h0 q A S b nb hnb hcb) (cwV 1 hts gL_used_X3_used rfl rfl rfl (by decide +kernel) ⟨Nat.le_of_ble_eq_true rfl, Nat.le_of_ble_eq_true rfl⟩) ((IH.left hI).preV (k0 := 0) rfl rfl) rfl rfl hl.1 rfl (lv_room (Nat.le_of_ble_eq_true rfl)) dL_used_4 ⟨Nat.le_of_eq (Nat.zero_add _), Nat.le_of_eq (Nat.zero_add _)⟩) hI hS (fun hex H locs hI hS => ?_) (fun E hex ce q9 H locs hI hS hce hcv hcl => ?_)
  · have hI : IH D cy h0 (wO cy q A S f g) s H := hI
    refine lv_i2l hx hb dL_used_7 rfl ?_
    refine r_last (w' := wO cy q A S (vp_updL f 0 ((bcF (A 7 (ix b))).toInt64)) g) (q0 := 19) hx hb hI hS hqA hh0 (qA_O hI) rfl rfl dL_used_8 rfl (fun H locs hI hS => ?_)
    refine lv_goto (tgt := 15) hx hb dL_used_9 (by decide) ?_
    refine lv_iconst (v := 0) hx hb dL_used_15 (by decide) ?_
    exact end_w hx hb hr (by rw [hex]; rfl) (by rw [hex]; rfl) (by rw [hex]; rfl) hI (by rw [if_pos hex]) hS dL_used_16 hlk
  · have hI : IH D cy h0 (wO cy q A S f g) s H := hI
    obtain rfl := ran_used hex
    refine vx_catch (name := xIOB) hown [] ⟨0, 9, 12, 21⟩ [] (htb.trans rfl) (fun z hz => by
        cases hz) (by decide) (by decide) (hts (.classLink RL 21 "java/lang/IndexOutOfBoundsException") (List.mem_of_getElem? (i := 1) rfl)) (va_Nw.use rfl (hI.1.1.2.2.1 xIOB (List.mem_of_getElem? (i := 2) rfl))) hce hcv hcl ?_
    refine lv_astore_n (lv' := [(3, .ref q9), (0, .ref (q 0)), (1, .int b), (2, .ref (q 19))]) hx hb dL_used_12 rfl hl (by decide) rfl (fun ls hl => ?_)
    refine lv_iconst (v := 1) hx hb dL_used_13 (by decide) ?_
    exact end_w hx hb hr (by rw [hex]; decide) (by rw [hex]; rfl) (by rw [hex]; rfl) hI (by rw [if_neg (by rw [hex]; exact Option.some_ne_none _)]) hS dL_used_14 hlk
theorem ran_newest {A : Nat → Nat → Int32} {S : Nat → Int32} {name : Int32} {nb : Nat} {E : String} (h : exNewest A S name nb = some E) : E = xIAE ∨ E = xNSE := by
  revert h
  unfold exNewest exF
  repeat' split
  all_goals (intro h; first | (cases h; done) | (injection h with h; subst h; simp))
set_option maxHeartbeats 4000000 in
set_option maxRecDepth 100000 in
theorem c_L_newest (l : Launch) (hst : l.stackTraces = false) (D : va_G) (cy : Nat → ClassId) (h0 : Nat) (q : Nat → Nat) (A : Nat → Nat → Int32) (S : Nat → Int32) (f : Nat → Int64) (g : Nat → UInt64) (name : Int32) (nb : Nat) (hnb : nb ≤ 24) (hcb : S 5 = nI nb) (htn : ∀ b, b < nb → ∃ t, t < 5 ∧ A 5 b = nI t) : Met l yL_newest wsL_newest (rmX (exNewest A S name nb) 8 129) (va_Pc [.ref (q 0), .int name, .ref (q 19)] (pI D cy h0 (wO cy q A S f g))) (rwI (cd [xIAE, xNSE] (exNewest A S name nb)) D cy h0 (if exNewest A S name nb = none then wO cy q A S (vp_updL f 0 ((nwX A S name nb).toInt64)) g else wO cy q A S f g) (qA 21 q)) (c1 (exNewest A S name nb)) (c6 (exNewest A S name nb)) (qA 21 q) := by
  refine va_MetW (cc := cL_newest) (maxL := 4) (ret := some .int) (by decide) rfl ?_
  intro p e s m args below meth c s₁ B hml hv
  obtain ⟨rfl, hI⟩ := hv
  have hx := B.exec
  have hb := B.bytes
  have hr := B.returns
  have hts := atoms_spec (ws := wsL_newest) B.pre
  have hown : s.vm.findClass RL = some m.cls := findClass_of_methodNamed B.named
  have hlk := B.notSynchronized
  have htb := vx_table (x := yL_newest) B (hts _ List.mem_cons_self)
  have hI : IH D cy h0 (wO cy q A S f g) s s.heap := hI
  have hqA := hA_O hI
  have hh0 : h0 ≤ s.heap.size := hI.1.2.2.2
  have hS : va_S (qA 21 q) s.heap s.heap [] := va_S.rf
  have hl := lv_entry ([.ref (q 0), .int name, .ref (q 19)]) (n := 4) (Nat.le_of_ble_eq_true rfl)
  rw [lg_entry_eq]
  generalize (lg_sl ([.ref (q 0), .int name, .ref (q 19)]) ++ List.replicate (4 - (lg_sl ([.ref (q 0), .int name, .ref (q 19)])).length) Slot.unset).toArray = ls at hl ⊢
  have hl : lv_has ls 4 [(0, .ref (q 0)), (1, .int name), (2, .ref (q 19))] := hl
  refine lv_aload_n hx hb dL_newest_0 rfl (lv_at hl 2 rfl) ?_
  refine lv_iconst (v := 0) hx hb dL_newest_1 (by decide) ?_
  refine lv_aload_n hx hb dL_newest_2 rfl (lv_at hl 0 rfl) ?_
  refine lv_iload_n hx hb dL_newest_3 rfl (lv_at hl 1 rfl) ?_
  refine wc_o_i (vx_runV (As := [.int name]) (rest := [.int 0, .ref (q 19)]) ⟨hx, hb, hml, hown, hts⟩ (c_X3_newest l hst D cy h0 q A S name nb hnb hcb htn) (cwV 1 hts gL_newest_X3_newest rfl rfl rfl (by decide +kernel) ⟨Nat.le_of_ble_eq_true rfl, Nat.le_of_ble_eq_true rfl⟩) ((IH.left hI).preV (k0 := 0) rfl rfl) rfl rfl hl.1 rfl (lv_room (Nat.le_of_ble_eq_true rfl)) dL_newest_4 ⟨Nat.le_of_eq (Nat.zero_add _), Nat.le_of_eq (Nat.zero_add _)⟩) hI hS (fun hex H locs hI hS => ?_) (fun E hex ce q9 H locs hI hS hce hcv hcl => ?_)
  · have hI : IH D cy h0 (wO cy q A S f g) s H := hI
    refine lv_i2l hx hb dL_newest_7 rfl ?_
    refine r_last (w' := wO cy q A S (vp_updL f 0 ((nwX A S name nb).toInt64)) g) (q0 := 19) hx hb hI hS hqA hh0 (qA_O hI) rfl rfl dL_newest_8 rfl (fun H locs hI hS => ?_)
    refine lv_goto (tgt := 18) hx hb dL_newest_9 (by decide) ?_
    refine lv_iconst (v := 0) hx hb dL_newest_18 (by decide) ?_
    exact end_w hx hb hr (by rw [hex]; rfl) (by rw [hex]; rfl) (by rw [hex]; rfl) hI (by rw [if_pos hex]) hS dL_newest_19 hlk
  · have hI : IH D cy h0 (wO cy q A S f g) s H := hI
    rcases ran_newest hex with rfl | rfl
    · refine vx_catch (name := xIAE) hown [] ⟨0, 9, 12, 13⟩ [⟨0, 9, 15, 58⟩] (htb.trans rfl) (fun z hz => by
          cases hz) (by decide) (by decide) (hts (.classLink RL 13 "java/lang/IllegalArgumentException") (List.mem_of_getElem? (i := 1) rfl)) (va_Nw.use rfl (hI.1.1.2.2.1 xIAE (List.mem_of_getElem? (i := 0) rfl))) hce hcv hcl ?_
      refine lv_astore_n (lv' := [(3, .ref q9), (0, .ref (q 0)), (1, .int name), (2, .ref (q 19))]) hx hb dL_newest_12 rfl hl (by decide) rfl (fun ls hl => ?_)
      refine lv_iconst (v := 1) hx hb dL_newest_13 (by decide) ?_
      exact end_w hx hb hr (by rw [hex]; decide) (by rw [hex]; rfl) (by rw [hex]; rfl) hI (by rw [if_neg (by rw [hex]; exact Option.some_ne_none _)]) hS dL_newest_14 hlk
    · refine vx_catch (name := xNSE) hown [⟨0, 9, 12, 13⟩] ⟨0, 9, 15, 58⟩ [] (htb.trans rfl) (fun z hz => by
          rcases List.mem_cons.mp hz with rfl | hz
          · exact Or.inr ⟨by decide, xIAE, (hts (.classLink RL 13 "java/lang/IllegalArgumentException") (List.mem_of_getElem? (i := 1) rfl)), hI.1.1.2.2.2.2.1 (xNSE, xIAE) (List.mem_of_getElem? (i := 16) rfl)⟩
          cases hz) (by decide) (by decide) (hts (.classLink RL 58 "java/util/NoSuchElementException") (List.mem_of_getElem? (i := 2) rfl)) (va_Nw.use rfl (hI.1.1.2.2.1 xNSE (List.mem_of_getElem? (i := 4) rfl))) hce hcv hcl ?_
      refine lv_astore_n (lv' := [(3, .ref q9), (0, .ref (q 0)), (1, .int name), (2, .ref (q 19))]) hx hb dL_newest_15 rfl hl (by decide) rfl (fun ls hl => ?_)
      refine lv_iconst (v := 2) hx hb dL_newest_16 (by decide) ?_
      exact end_w hx hb hr (by rw [hex]; decide) (by rw [hex]; rfl) (by rw [hex]; rfl) hI (by rw [if_neg (by rw [hex]; exact Option.some_ne_none _)]) hS dL_newest_17 hlk
theorem ran_attest {A : Nat → Nat → Int32} {S : Nat → Int32} {b : Int32} {key : Int32} {nk : Nat} {nb : Nat} {E : String} (h : exAttest A S b key nk nb = some E) : E = xIOB ∨ E = xISE ∨ E = xUOE := by
  revert h
  unfold exAttest
  repeat' split
  all_goals (intro h; first | (cases h; done) | (injection h with h; subst h; simp))
set_option maxHeartbeats 4000000 in
set_option maxRecDepth 100000 in
theorem c_L_attest (l : Launch) (hst : l.stackTraces = false) (D : va_G) (cy : Nat → ClassId) (h0 : Nat) (q : Nat → Nat) (A : Nat → Nat → Int32) (S : Nat → Int32) (f : Nat → Int64) (g : Nat → UInt64) (b : Int32) (key : Int32) (nk : Nat) (hnk : nk ≤ 8) (hck : S 3 = nI nk) (nb : Nat) (hnb : nb ≤ 24) (hcb : S 5 = nI nb) : Met l yL_attest wsL_attest (rmX (exAttest A S b key nk nb) 8 125) (va_Pc [.ref (q 0), .int b, .int key, .ref (q 19)] (pI D cy h0 (wO cy q A S f g))) (rwI (cd [xIOB, xISE, xUOE] (exAttest A S b key nk nb)) D cy h0 (if exAttest A S b key nk nb = none then wO cy q (atA A b key) S (vp_updL f 0 ((bcF (A 9 (ix b) ||| ly key)).toInt64)) g else wO cy q A S f g) (qA 21 q)) (c1 (exAttest A S b key nk nb)) (c6 (exAttest A S b key nk nb)) (qA 21 q) := by
  refine va_MetW (cc := cL_attest) (maxL := 5) (ret := some .int) (by decide) rfl ?_
  intro p e s m args below meth c s₁ B hml hv
  obtain ⟨rfl, hI⟩ := hv
  have hx := B.exec
  have hb := B.bytes
  have hr := B.returns
  have hts := atoms_spec (ws := wsL_attest) B.pre
  have hown : s.vm.findClass RL = some m.cls := findClass_of_methodNamed B.named
  have hlk := B.notSynchronized
  have htb := vx_table (x := yL_attest) B (hts _ List.mem_cons_self)
  have hI : IH D cy h0 (wO cy q A S f g) s s.heap := hI
  have hqA := hA_O hI
  have hh0 : h0 ≤ s.heap.size := hI.1.2.2.2
  have hS : va_S (qA 21 q) s.heap s.heap [] := va_S.rf
  have hl := lv_entry ([.ref (q 0), .int b, .int key, .ref (q 19)]) (n := 5) (Nat.le_of_ble_eq_true rfl)
  rw [lg_entry_eq]
  generalize (lg_sl ([.ref (q 0), .int b, .int key, .ref (q 19)]) ++ List.replicate (5 - (lg_sl ([.ref (q 0), .int b, .int key, .ref (q 19)])).length) Slot.unset).toArray = ls at hl ⊢
  have hl : lv_has ls 5 [(0, .ref (q 0)), (1, .int b), (2, .int key), (3, .ref (q 19))] := hl
  refine lv_aload_n hx hb dL_attest_0 rfl (lv_at hl 3 rfl) ?_
  refine lv_iconst (v := 0) hx hb dL_attest_1 (by decide) ?_
  refine lv_aload_n hx hb dL_attest_2 rfl (lv_at hl 0 rfl) ?_
  refine lv_iload_n hx hb dL_attest_3 rfl (lv_at hl 1 rfl) ?_
  refine lv_iload_n hx hb dL_attest_4 rfl (lv_at hl 2 rfl) ?_
  refine wc_w_i (w1' := wX cy q (atA A b key) S) (vx_runV (As := [.int b, .int key]) (rest := [.int 0, .ref (q 19)]) ⟨hx, hb, hml, hown, hts⟩ (c_X3_attest l hst D cy h0 q A S b key nk hnk hck nb hnb hcb) (cwV 2 hts gL_attest_X3_attest rfl rfl rfl (by decide +kernel) ⟨Nat.le_of_ble_eq_true rfl, Nat.le_of_ble_eq_true rfl⟩) ((IH.left hI).preV (k0 := 0) rfl rfl) rfl rfl hl.1 rfl (lv_room (Nat.le_of_ble_eq_true rfl)) dL_attest_5 ⟨Nat.le_of_eq (Nat.zero_add _), Nat.le_of_eq (Nat.zero_add _)⟩) hI hS q19 rfl in_X (fun hex H locs hI hS => ?_) (fun E hex ce q9 H locs hI hS hce hcv hcl => ?_)
  · have hI : IH D cy h0 (wO cy q (atA A b key) S f g) s H := hI
    refine lv_i2l hx hb dL_attest_8 rfl ?_
    refine r_last (w' := wO cy q (atA A b key) S (vp_updL f 0 ((bcF (A 9 (ix b) ||| ly key)).toInt64)) g) (q0 := 19) hx hb hI hS hqA hh0 (qA_O hI) rfl rfl dL_attest_9 rfl (fun H locs hI hS => ?_)
    refine lv_goto (tgt := 25) hx hb dL_attest_10 (by decide) ?_
    refine lv_iconst (v := 0) hx hb dL_attest_25 (by decide) ?_
    exact end_w hx hb hr (by rw [hex]; rfl) (by rw [hex]; rfl) (by rw [hex]; rfl) hI (by rw [if_pos hex]) hS dL_attest_26 hlk
  · have hI : IH D cy h0 (wO cy q A S f g) s H := hI
    rcases ran_attest hex with rfl | rfl | rfl
    · refine vx_catch (name := xIOB) hown [] ⟨0, 10, 13, 21⟩ [⟨0, 10, 17, 15⟩, ⟨0, 10, 21, 40⟩] (htb.trans rfl) (fun z hz => by
          cases hz) (by decide) (by decide) (hts (.classLink RL 21 "java/lang/IndexOutOfBoundsException") (List.mem_of_getElem? (i := 1) rfl)) (va_Nw.use rfl (hI.1.1.2.2.1 xIOB (List.mem_of_getElem? (i := 2) rfl))) hce hcv hcl ?_
      refine lv_astore (lv' := [(4, .ref q9), (0, .ref (q 0)), (1, .int b), (2, .int key), (3, .ref (q 19))]) hx hb dL_attest_13 hl (by decide) rfl (fun ls hl => ?_)
      refine lv_iconst (v := 1) hx hb dL_attest_15 (by decide) ?_
      exact end_w hx hb hr (by rw [hex]; decide) (by rw [hex]; rfl) (by rw [hex]; rfl) hI (by rw [if_neg (by rw [hex]; exact Option.some_ne_none _)]) hS dL_attest_16 hlk
    · refine vx_catch (name := xISE) hown [⟨0, 10, 13, 21⟩] ⟨0, 10, 17, 15⟩ [⟨0, 10, 21, 40⟩] (htb.trans rfl) (fun z hz => by
          rcases List.mem_cons.mp hz with rfl | hz
          · exact Or.inr ⟨by decide, xIOB, (hts (.classLink RL 21 "java/lang/IndexOutOfBoundsException") (List.mem_of_getElem? (i := 1) rfl)), hI.1.1.2.2.2.2.1 (xISE, xIOB) (List.mem_of_getElem? (i := 5) rfl)⟩
          cases hz) (by decide) (by decide) (hts (.classLink RL 15 "java/lang/IllegalStateException") (List.mem_of_getElem? (i := 2) rfl)) (va_Nw.use rfl (hI.1.1.2.2.1 xISE (List.mem_of_getElem? (i := 1) rfl))) hce hcv hcl ?_
      refine lv_astore (lv' := [(4, .ref q9), (0, .ref (q 0)), (1, .int b), (2, .int key), (3, .ref (q 19))]) hx hb dL_attest_17 hl (by decide) rfl (fun ls hl => ?_)
      refine lv_iconst (v := 2) hx hb dL_attest_19 (by decide) ?_
      exact end_w hx hb hr (by rw [hex]; decide) (by rw [hex]; rfl) (by rw [hex]; rfl) hI (by rw [if_neg (by rw [hex]; exact Option.some_ne_none _)]) hS dL_attest_20 hlk
    · refine vx_catch (name := xUOE) hown [⟨0, 10, 13, 21⟩, ⟨0, 10, 17, 15⟩] ⟨0, 10, 21, 40⟩ [] (htb.trans rfl) (fun z hz => by
          rcases List.mem_cons.mp hz with rfl | hz
          · exact Or.inr ⟨by decide, xIOB, (hts (.classLink RL 21 "java/lang/IndexOutOfBoundsException") (List.mem_of_getElem? (i := 1) rfl)), hI.1.1.2.2.2.2.1 (xUOE, xIOB) (List.mem_of_getElem? (i := 14) rfl)⟩
          rcases List.mem_cons.mp hz with rfl | hz
          · exact Or.inr ⟨by decide, xISE, (hts (.classLink RL 15 "java/lang/IllegalStateException") (List.mem_of_getElem? (i := 2) rfl)), hI.1.1.2.2.2.2.1 (xUOE, xISE) (List.mem_of_getElem? (i := 13) rfl)⟩
          cases hz) (by decide) (by decide) (hts (.classLink RL 40 "java/lang/UnsupportedOperationException") (List.mem_of_getElem? (i := 3) rfl)) (va_Nw.use rfl (hI.1.1.2.2.1 xUOE (List.mem_of_getElem? (i := 3) rfl))) hce hcv hcl ?_
      refine lv_astore (lv' := [(4, .ref q9), (0, .ref (q 0)), (1, .int b), (2, .int key), (3, .ref (q 19))]) hx hb dL_attest_21 hl (by decide) rfl (fun ls hl => ?_)
      refine lv_iconst (v := 3) hx hb dL_attest_23 (by decide) ?_
      exact end_w hx hb hr (by rw [hex]; decide) (by rw [hex]; rfl) (by rw [hex]; rfl) hI (by rw [if_neg (by rw [hex]; exact Option.some_ne_none _)]) hS dL_attest_24 hlk
theorem ran_vouches {b : Int32} {signer : Int32} {nb : Nat} {E : String} (h : exVouches b signer nb = some E) : E = xIOB ∨ E = xIAE := by
  revert h
  unfold exVouches exR
  repeat' split
  all_goals (intro h; first | (cases h; done) | (injection h with h; subst h; simp))
set_option maxHeartbeats 4000000 in
set_option maxRecDepth 100000 in
theorem c_L_vouches (l : Launch) (hst : l.stackTraces = false) (D : va_G) (cy : Nat → ClassId) (h0 : Nat) (q : Nat → Nat) (A : Nat → Nat → Int32) (S : Nat → Int32) (f : Nat → Int64) (g : Nat → UInt64) (b : Int32) (signer : Int32) (nb : Nat) (hnb : nb ≤ 24) (hcb : S 5 = nI nb) : Met l yL_vouches wsL_vouches (rmX (exVouches b signer nb) 8 125) (va_Pc [.ref (q 0), .int b, .int signer, .ref (q 19)] (pI D cy h0 (wO cy q A S f g))) (rwI (cd [xIOB, xIAE] (exVouches b signer nb)) D cy h0 (if exVouches b signer nb = none then wO cy q A S (vp_updL f 0 ((bI (hold (A 10 (ix b)) signer)).toInt64)) g else wO cy q A S f g) (qA 21 q)) (c1 (exVouches b signer nb)) (c6 (exVouches b signer nb)) (qA 21 q) := by
  refine va_MetW (cc := cL_vouches) (maxL := 5) (ret := some .int) (by decide) rfl ?_
  intro p e s m args below meth c s₁ B hml hv
  obtain ⟨rfl, hI⟩ := hv
  have hx := B.exec
  have hb := B.bytes
  have hr := B.returns
  have hts := atoms_spec (ws := wsL_vouches) B.pre
  have hown : s.vm.findClass RL = some m.cls := findClass_of_methodNamed B.named
  have hlk := B.notSynchronized
  have htb := vx_table (x := yL_vouches) B (hts _ List.mem_cons_self)
  have hI : IH D cy h0 (wO cy q A S f g) s s.heap := hI
  have hqA := hA_O hI
  have hh0 : h0 ≤ s.heap.size := hI.1.2.2.2
  have hS : va_S (qA 21 q) s.heap s.heap [] := va_S.rf
  have hl := lv_entry ([.ref (q 0), .int b, .int signer, .ref (q 19)]) (n := 5) (Nat.le_of_ble_eq_true rfl)
  rw [lg_entry_eq]
  generalize (lg_sl ([.ref (q 0), .int b, .int signer, .ref (q 19)]) ++ List.replicate (5 - (lg_sl ([.ref (q 0), .int b, .int signer, .ref (q 19)])).length) Slot.unset).toArray = ls at hl ⊢
  have hl : lv_has ls 5 [(0, .ref (q 0)), (1, .int b), (2, .int signer), (3, .ref (q 19))] := hl
  refine lv_aload_n hx hb dL_vouches_0 rfl (lv_at hl 3 rfl) ?_
  refine lv_iconst (v := 0) hx hb dL_vouches_1 (by decide) ?_
  refine lv_aload_n hx hb dL_vouches_2 rfl (lv_at hl 0 rfl) ?_
  refine lv_iload_n hx hb dL_vouches_3 rfl (lv_at hl 1 rfl) ?_
  refine lv_iload_n hx hb dL_vouches_4 rfl (lv_at hl 2 rfl) ?_
  refine wc_o_i (vx_runV (As := [.int b, .int signer]) (rest := [.int 0, .ref (q 19)]) ⟨hx, hb, hml, hown, hts⟩ (c_X3_vouches l hst D cy h0 q A S b signer nb hnb hcb) (cwV 2 hts gL_vouches_X3_vouches rfl rfl rfl (by decide +kernel) ⟨Nat.le_of_ble_eq_true rfl, Nat.le_of_ble_eq_true rfl⟩) ((IH.left hI).preV (k0 := 0) rfl rfl) rfl rfl hl.1 rfl (lv_room (Nat.le_of_ble_eq_true rfl)) dL_vouches_5 ⟨Nat.le_of_eq (Nat.zero_add _), Nat.le_of_eq (Nat.zero_add _)⟩) hI hS (fun hex H locs hI hS => ?_) (fun E hex ce q9 H locs hI hS hce hcv hcl => ?_)
  · have hI : IH D cy h0 (wO cy q A S f g) s H := hI
    refine r_ifeq_b (tgt := 15) hx hb dL_vouches_8 (by decide) (fun hB => ?_) (fun hB => ?_)
    · refine lv_lconst (v := 0) hx hb dL_vouches_15 (by decide) ?_
      refine r_last (w' := wO cy q A S (vp_updL f 0 (0)) g) (q0 := 19) hx hb hI hS hqA hh0 (qA_O hI) rfl rfl dL_vouches_16 rfl (fun H locs hI hS => ?_)
      refine lv_goto (tgt := 28) hx hb dL_vouches_17 (by decide) ?_
      refine lv_iconst (v := 0) hx hb dL_vouches_28 (by decide) ?_
      exact end_w hx hb hr (by rw [hex]; rfl) (by rw [hex]; rfl) (by rw [hex]; rfl) hI (by rw [if_pos hex, hB]; rfl) hS dL_vouches_29 hlk
    · refine lv_lconst (v := 1) hx hb dL_vouches_11 (by decide) ?_
      refine lv_goto (tgt := 16) hx hb dL_vouches_12 (by decide) ?_
      refine r_last (w' := wO cy q A S (vp_updL f 0 (1)) g) (q0 := 19) hx hb hI hS hqA hh0 (qA_O hI) rfl rfl dL_vouches_16 rfl (fun H locs hI hS => ?_)
      refine lv_goto (tgt := 28) hx hb dL_vouches_17 (by decide) ?_
      refine lv_iconst (v := 0) hx hb dL_vouches_28 (by decide) ?_
      exact end_w hx hb hr (by rw [hex]; rfl) (by rw [hex]; rfl) (by rw [hex]; rfl) hI (by rw [if_pos hex, hB]; rfl) hS dL_vouches_29 hlk
  · have hI : IH D cy h0 (wO cy q A S f g) s H := hI
    rcases ran_vouches hex with rfl | rfl
    · refine vx_catch (name := xIOB) hown [] ⟨0, 17, 20, 21⟩ [⟨0, 17, 24, 13⟩] (htb.trans rfl) (fun z hz => by
          cases hz) (by decide) (by decide) (hts (.classLink RL 21 "java/lang/IndexOutOfBoundsException") (List.mem_of_getElem? (i := 1) rfl)) (va_Nw.use rfl (hI.1.1.2.2.1 xIOB (List.mem_of_getElem? (i := 2) rfl))) hce hcv hcl ?_
      refine lv_astore (lv' := [(4, .ref q9), (0, .ref (q 0)), (1, .int b), (2, .int signer), (3, .ref (q 19))]) hx hb dL_vouches_20 hl (by decide) rfl (fun ls hl => ?_)
      refine lv_iconst (v := 1) hx hb dL_vouches_22 (by decide) ?_
      exact end_w hx hb hr (by rw [hex]; decide) (by rw [hex]; rfl) (by rw [hex]; rfl) hI (by rw [if_neg (by rw [hex]; exact Option.some_ne_none _)]) hS dL_vouches_23 hlk
    · refine vx_catch (name := xIAE) hown [⟨0, 17, 20, 21⟩] ⟨0, 17, 24, 13⟩ [] (htb.trans rfl) (fun z hz => by
          rcases List.mem_cons.mp hz with rfl | hz
          · exact Or.inr ⟨by decide, xIOB, (hts (.classLink RL 21 "java/lang/IndexOutOfBoundsException") (List.mem_of_getElem? (i := 1) rfl)), hI.1.1.2.2.2.2.1 (xIAE, xIOB) (List.mem_of_getElem? (i := 1) rfl)⟩
          cases hz) (by decide) (by decide) (hts (.classLink RL 13 "java/lang/IllegalArgumentException") (List.mem_of_getElem? (i := 2) rfl)) (va_Nw.use rfl (hI.1.1.2.2.1 xIAE (List.mem_of_getElem? (i := 0) rfl))) hce hcv hcl ?_
      refine lv_astore (lv' := [(4, .ref q9), (0, .ref (q 0)), (1, .int b), (2, .int signer), (3, .ref (q 19))]) hx hb dL_vouches_24 hl (by decide) rfl (fun ls hl => ?_)
      refine lv_iconst (v := 2) hx hb dL_vouches_26 (by decide) ?_
      exact end_w hx hb hr (by rw [hex]; decide) (by rw [hex]; rfl) (by rw [hex]; rfl) hI (by rw [if_neg (by rw [hex]; exact Option.some_ne_none _)]) hS dL_vouches_27 hlk
theorem ran_vouchesByList {b : Int32} {signer : Int32} {nb : Nat} {E : String} (h : exVouches b signer nb = some E) : E = xIOB ∨ E = xIAE := by
  revert h
  unfold exVouches exR
  repeat' split
  all_goals (intro h; first | (cases h; done) | (injection h with h; subst h; simp))
set_option maxHeartbeats 4000000 in
set_option maxRecDepth 100000 in
theorem c_L_vouchesByList (l : Launch) (hst : l.stackTraces = false) (D : va_G) (cy : Nat → ClassId) (h0 : Nat) (q : Nat → Nat) (A : Nat → Nat → Int32) (S : Nat → Int32) (f : Nat → Int64) (g : Nat → UInt64) (b : Int32) (signer : Int32) (nk : Nat) (hnk : nk ≤ 8) (hck : S 3 = nI nk) (nb : Nat) (hnb : nb ≤ 24) (hcb : S 5 = nI nb) : Met l yL_vouchesByList wsL_vouchesByList (rmX (exVouches b signer nb) 8 125) (va_Pc [.ref (q 0), .int b, .int signer, .ref (q 19)] (pI D cy h0 (wO cy q A S f g))) (rwI (cd [xIOB, xIAE] (exVouches b signer nb)) D cy h0 (if exVouches b signer nb = none then wO cy q A S (vp_updL f 0 ((bI (hold (sgF (A 2) (A 9 (ix b) &&& liveF A S (S 1) nk) nk) signer)).toInt64)) g else wO cy q A S f g) (qA 21 q)) (c1 (exVouches b signer nb)) (c6 (exVouches b signer nb)) (qA 21 q) := by
  refine va_MetW (cc := cL_vouchesByList) (maxL := 5) (ret := some .int) (by decide) rfl ?_
  intro p e s m args below meth c s₁ B hml hv
  obtain ⟨rfl, hI⟩ := hv
  have hx := B.exec
  have hb := B.bytes
  have hr := B.returns
  have hts := atoms_spec (ws := wsL_vouchesByList) B.pre
  have hown : s.vm.findClass RL = some m.cls := findClass_of_methodNamed B.named
  have hlk := B.notSynchronized
  have htb := vx_table (x := yL_vouchesByList) B (hts _ List.mem_cons_self)
  have hI : IH D cy h0 (wO cy q A S f g) s s.heap := hI
  have hqA := hA_O hI
  have hh0 : h0 ≤ s.heap.size := hI.1.2.2.2
  have hS : va_S (qA 21 q) s.heap s.heap [] := va_S.rf
  have hl := lv_entry ([.ref (q 0), .int b, .int signer, .ref (q 19)]) (n := 5) (Nat.le_of_ble_eq_true rfl)
  rw [lg_entry_eq]
  generalize (lg_sl ([.ref (q 0), .int b, .int signer, .ref (q 19)]) ++ List.replicate (5 - (lg_sl ([.ref (q 0), .int b, .int signer, .ref (q 19)])).length) Slot.unset).toArray = ls at hl ⊢
  have hl : lv_has ls 5 [(0, .ref (q 0)), (1, .int b), (2, .int signer), (3, .ref (q 19))] := hl
  refine lv_aload_n hx hb dL_vouchesByList_0 rfl (lv_at hl 3 rfl) ?_
  refine lv_iconst (v := 0) hx hb dL_vouchesByList_1 (by decide) ?_
  refine lv_aload_n hx hb dL_vouchesByList_2 rfl (lv_at hl 0 rfl) ?_
  refine lv_iload_n hx hb dL_vouchesByList_3 rfl (lv_at hl 1 rfl) ?_
  refine lv_iload_n hx hb dL_vouchesByList_4 rfl (lv_at hl 2 rfl) ?_
  refine wc_o_i (vx_runV (As := [.int b, .int signer]) (rest := [.int 0, .ref (q 19)]) ⟨hx, hb, hml, hown, hts⟩ (c_X3_vouchesByList l hst D cy h0 q A S b signer nk hnk hck nb hnb hcb) (cwV 2 hts gL_vouchesByList_X3_vouchesByList rfl rfl rfl (by decide +kernel) ⟨Nat.le_of_ble_eq_true rfl, Nat.le_of_ble_eq_true rfl⟩) ((IH.left hI).preV (k0 := 0) rfl rfl) rfl rfl hl.1 rfl (lv_room (Nat.le_of_ble_eq_true rfl)) dL_vouchesByList_5 ⟨Nat.le_of_eq (Nat.zero_add _), Nat.le_of_eq (Nat.zero_add _)⟩) hI hS (fun hex H locs hI hS => ?_) (fun E hex ce q9 H locs hI hS hce hcv hcl => ?_)
  · have hI : IH D cy h0 (wO cy q A S f g) s H := hI
    refine r_ifeq_b (tgt := 15) hx hb dL_vouchesByList_8 (by decide) (fun hB => ?_) (fun hB => ?_)
    · refine lv_lconst (v := 0) hx hb dL_vouchesByList_15 (by decide) ?_
      refine r_last (w' := wO cy q A S (vp_updL f 0 (0)) g) (q0 := 19) hx hb hI hS hqA hh0 (qA_O hI) rfl rfl dL_vouchesByList_16 rfl (fun H locs hI hS => ?_)
      refine lv_goto (tgt := 28) hx hb dL_vouchesByList_17 (by decide) ?_
      refine lv_iconst (v := 0) hx hb dL_vouchesByList_28 (by decide) ?_
      exact end_w hx hb hr (by rw [hex]; rfl) (by rw [hex]; rfl) (by rw [hex]; rfl) hI (by rw [if_pos hex, hB]; rfl) hS dL_vouchesByList_29 hlk
    · refine lv_lconst (v := 1) hx hb dL_vouchesByList_11 (by decide) ?_
      refine lv_goto (tgt := 16) hx hb dL_vouchesByList_12 (by decide) ?_
      refine r_last (w' := wO cy q A S (vp_updL f 0 (1)) g) (q0 := 19) hx hb hI hS hqA hh0 (qA_O hI) rfl rfl dL_vouchesByList_16 rfl (fun H locs hI hS => ?_)
      refine lv_goto (tgt := 28) hx hb dL_vouchesByList_17 (by decide) ?_
      refine lv_iconst (v := 0) hx hb dL_vouchesByList_28 (by decide) ?_
      exact end_w hx hb hr (by rw [hex]; rfl) (by rw [hex]; rfl) (by rw [hex]; rfl) hI (by rw [if_pos hex, hB]; rfl) hS dL_vouchesByList_29 hlk
  · have hI : IH D cy h0 (wO cy q A S f g) s H := hI
    rcases ran_vouchesByList hex with rfl | rfl
    · refine vx_catch (name := xIOB) hown [] ⟨0, 17, 20, 21⟩ [⟨0, 17, 24, 13⟩] (htb.trans rfl) (fun z hz => by
          cases hz) (by decide) (by decide) (hts (.classLink RL 21 "java/lang/IndexOutOfBoundsException") (List.mem_of_getElem? (i := 1) rfl)) (va_Nw.use rfl (hI.1.1.2.2.1 xIOB (List.mem_of_getElem? (i := 2) rfl))) hce hcv hcl ?_
      refine lv_astore (lv' := [(4, .ref q9), (0, .ref (q 0)), (1, .int b), (2, .int signer), (3, .ref (q 19))]) hx hb dL_vouchesByList_20 hl (by decide) rfl (fun ls hl => ?_)
      refine lv_iconst (v := 1) hx hb dL_vouchesByList_22 (by decide) ?_
      exact end_w hx hb hr (by rw [hex]; decide) (by rw [hex]; rfl) (by rw [hex]; rfl) hI (by rw [if_neg (by rw [hex]; exact Option.some_ne_none _)]) hS dL_vouchesByList_23 hlk
    · refine vx_catch (name := xIAE) hown [⟨0, 17, 20, 21⟩] ⟨0, 17, 24, 13⟩ [] (htb.trans rfl) (fun z hz => by
          rcases List.mem_cons.mp hz with rfl | hz
          · exact Or.inr ⟨by decide, xIOB, (hts (.classLink RL 21 "java/lang/IndexOutOfBoundsException") (List.mem_of_getElem? (i := 1) rfl)), hI.1.1.2.2.2.2.1 (xIAE, xIOB) (List.mem_of_getElem? (i := 1) rfl)⟩
          cases hz) (by decide) (by decide) (hts (.classLink RL 13 "java/lang/IllegalArgumentException") (List.mem_of_getElem? (i := 2) rfl)) (va_Nw.use rfl (hI.1.1.2.2.1 xIAE (List.mem_of_getElem? (i := 0) rfl))) hce hcv hcl ?_
      refine lv_astore (lv' := [(4, .ref q9), (0, .ref (q 0)), (1, .int b), (2, .int signer), (3, .ref (q 19))]) hx hb dL_vouchesByList_24 hl (by decide) rfl (fun ls hl => ?_)
      refine lv_iconst (v := 2) hx hb dL_vouchesByList_26 (by decide) ?_
      exact end_w hx hb hr (by rw [hex]; decide) (by rw [hex]; rfl) (by rw [hex]; rfl) hI (by rw [if_neg (by rw [hex]; exact Option.some_ne_none _)]) hS dL_vouchesByList_27 hlk
theorem ran_score {b : Int32} {nb : Nat} {E : String} (h : exR b nb xIOB = some E) : E = xIOB := by
  revert h
  unfold exR
  repeat' split
  all_goals (intro h; first | (cases h; done) | (injection h with h; subst h; simp))
set_option maxHeartbeats 4000000 in
set_option maxRecDepth 100000 in
theorem c_L_score (l : Launch) (hst : l.stackTraces = false) (D : va_G) (cy : Nat → ClassId) (h0 : Nat) (q : Nat → Nat) (A : Nat → Nat → Int32) (S : Nat → Int32) (f : Nat → Int64) (g : Nat → UInt64) (b : Int32) (nb : Nat) (hnb : nb ≤ 24) (hcb : S 5 = nI nb) (hw : wOK (A 0)) : Met l yL_score wsL_score (rmX (exR b nb xIOB) 8 124) (va_Pc [.ref (q 0), .int b, .ref (q 20)] (pI D cy h0 (wO cy q A S f g))) (rwI (cd [xIOB] (exR b nb xIOB)) D cy h0 (if exR b nb xIOB = none then wO cy q A S f (vf_upd g 0 (FP.f2d (scF (A 0) (A 10 (ix b)) 4))) else wO cy q A S f g) (qA 21 q)) (c1 (exR b nb xIOB)) (c6 (exR b nb xIOB)) (qA 21 q) := by
  refine va_MetW (cc := cL_score) (maxL := 4) (ret := some .int) (by decide) rfl ?_
  intro p e s m args below meth c s₁ B hml hv
  obtain ⟨rfl, hI⟩ := hv
  have hx := B.exec
  have hb := B.bytes
  have hr := B.returns
  have hts := atoms_spec (ws := wsL_score) B.pre
  have hown : s.vm.findClass RL = some m.cls := findClass_of_methodNamed B.named
  have hlk := B.notSynchronized
  have htb := vx_table (x := yL_score) B (hts _ List.mem_cons_self)
  have hI : IH D cy h0 (wO cy q A S f g) s s.heap := hI
  have hqA := hA_O hI
  have hh0 : h0 ≤ s.heap.size := hI.1.2.2.2
  have hS : va_S (qA 21 q) s.heap s.heap [] := va_S.rf
  have hl := lv_entry ([.ref (q 0), .int b, .ref (q 20)]) (n := 4) (Nat.le_of_ble_eq_true rfl)
  rw [lg_entry_eq]
  generalize (lg_sl ([.ref (q 0), .int b, .ref (q 20)]) ++ List.replicate (4 - (lg_sl ([.ref (q 0), .int b, .ref (q 20)])).length) Slot.unset).toArray = ls at hl ⊢
  have hl : lv_has ls 4 [(0, .ref (q 0)), (1, .int b), (2, .ref (q 20))] := hl
  refine lv_aload_n hx hb dL_score_0 rfl (lv_at hl 2 rfl) ?_
  refine lv_iconst (v := 0) hx hb dL_score_1 (by decide) ?_
  refine lv_aload_n hx hb dL_score_2 rfl (lv_at hl 0 rfl) ?_
  refine lv_iload_n hx hb dL_score_3 rfl (lv_at hl 1 rfl) ?_
  refine wc_o_f (vx_runV (As := [.int b]) (rest := [.int 0, .ref (q 20)]) ⟨hx, hb, hml, hown, hts⟩ (c_X3_score l hst D cy h0 q A S b nb hnb hcb) (cwV 1 hts gL_score_X3_score rfl rfl rfl (by decide +kernel) ⟨Nat.le_of_ble_eq_true rfl, Nat.le_of_ble_eq_true rfl⟩) ((IH.left hI).preV (k0 := 0) rfl rfl) rfl rfl hl.1 rfl (lv_room (Nat.le_of_ble_eq_true rfl)) dL_score_4 ⟨Nat.le_of_eq (Nat.zero_add _), Nat.le_of_eq (Nat.zero_add _)⟩) hI hS (fun hex H locs hI hS => ?_) (fun E hex ce q9 H locs hI hS hce hcv hcl => ?_)
  · have hI : IH D cy h0 (wO cy q A S f g) s H := hI
    refine lv_f2d hx hb dL_score_7 (f2d_nn (sOK_fin (sc_ok hw _ 4 (by decide)) (by decide) (by decide)).notNaN) ?_
    refine r_dast (w' := wO cy q A S f (vf_upd g 0 (FP.f2d (scF (A 0) (A 10 (ix b)) 4)))) (q0 := 20) hx hb hI hS hqA hh0 (qA_O hI) rfl rfl dL_score_8 rfl (fun H locs hI hS => ?_)
    refine lv_goto (tgt := 15) hx hb dL_score_9 (by decide) ?_
    refine lv_iconst (v := 0) hx hb dL_score_15 (by decide) ?_
    exact end_w hx hb hr (by rw [hex]; rfl) (by rw [hex]; rfl) (by rw [hex]; rfl) hI (by rw [if_pos hex]) hS dL_score_16 hlk
  · have hI : IH D cy h0 (wO cy q A S f g) s H := hI
    obtain rfl := ran_score hex
    refine vx_catch (name := xIOB) hown [] ⟨0, 9, 12, 21⟩ [] (htb.trans rfl) (fun z hz => by
        cases hz) (by decide) (by decide) (hts (.classLink RL 21 "java/lang/IndexOutOfBoundsException") (List.mem_of_getElem? (i := 1) rfl)) (va_Nw.use rfl (hI.1.1.2.2.1 xIOB (List.mem_of_getElem? (i := 2) rfl))) hce hcv hcl ?_
    refine lv_astore_n (lv' := [(3, .ref q9), (0, .ref (q 0)), (1, .int b), (2, .ref (q 20))]) hx hb dL_score_12 rfl hl (by decide) rfl (fun ls hl => ?_)
    refine lv_iconst (v := 1) hx hb dL_score_13 (by decide) ?_
    exact end_w hx hb hr (by rw [hex]; decide) (by rw [hex]; rfl) (by rw [hex]; rfl) hI (by rw [if_neg (by rw [hex]; exact Option.some_ne_none _)]) hS dL_score_14 hlk
theorem ran_scoreBits {b : Int32} {nb : Nat} {E : String} (h : exR b nb xIOB = some E) : E = xIOB := by
  revert h
  unfold exR
  repeat' split
  all_goals (intro h; first | (cases h; done) | (injection h with h; subst h; simp))
set_option maxHeartbeats 4000000 in
set_option maxRecDepth 100000 in
theorem c_L_scoreBits (l : Launch) (hst : l.stackTraces = false) (D : va_G) (cy : Nat → ClassId) (h0 : Nat) (q : Nat → Nat) (A : Nat → Nat → Int32) (S : Nat → Int32) (f : Nat → Int64) (g : Nat → UInt64) (b : Int32) (nb : Nat) (hnb : nb ≤ 24) (hcb : S 5 = nI nb) (hw : wOK (A 0)) : Met l yL_scoreBits wsL_scoreBits (rmX (exR b nb xIOB) 8 124) (va_Pc [.ref (q 0), .int b, .ref (q 19)] (pI D cy h0 (wO cy q A S f g))) (rwI (cd [xIOB] (exR b nb xIOB)) D cy h0 (if exR b nb xIOB = none then wO cy q A S (vp_updL f 0 (((scF (A 0) (A 10 (ix b)) 4).toInt32).toInt64)) g else wO cy q A S f g) (qA 21 q)) (c1 (exR b nb xIOB)) (c6 (exR b nb xIOB)) (qA 21 q) := by
  refine va_MetW (cc := cL_scoreBits) (maxL := 4) (ret := some .int) (by decide) rfl ?_
  intro p e s m args below meth c s₁ B hml hv
  obtain ⟨rfl, hI⟩ := hv
  have hx := B.exec
  have hb := B.bytes
  have hr := B.returns
  have hts := atoms_spec (ws := wsL_scoreBits) B.pre
  have hown : s.vm.findClass RL = some m.cls := findClass_of_methodNamed B.named
  have hlk := B.notSynchronized
  have htb := vx_table (x := yL_scoreBits) B (hts _ List.mem_cons_self)
  have hI : IH D cy h0 (wO cy q A S f g) s s.heap := hI
  have hqA := hA_O hI
  have hh0 : h0 ≤ s.heap.size := hI.1.2.2.2
  have hS : va_S (qA 21 q) s.heap s.heap [] := va_S.rf
  have hl := lv_entry ([.ref (q 0), .int b, .ref (q 19)]) (n := 4) (Nat.le_of_ble_eq_true rfl)
  rw [lg_entry_eq]
  generalize (lg_sl ([.ref (q 0), .int b, .ref (q 19)]) ++ List.replicate (4 - (lg_sl ([.ref (q 0), .int b, .ref (q 19)])).length) Slot.unset).toArray = ls at hl ⊢
  have hl : lv_has ls 4 [(0, .ref (q 0)), (1, .int b), (2, .ref (q 19))] := hl
  refine lv_aload_n hx hb dL_scoreBits_0 rfl (lv_at hl 2 rfl) ?_
  refine lv_iconst (v := 0) hx hb dL_scoreBits_1 (by decide) ?_
  refine lv_aload_n hx hb dL_scoreBits_2 rfl (lv_at hl 0 rfl) ?_
  refine lv_iload_n hx hb dL_scoreBits_3 rfl (lv_at hl 1 rfl) ?_
  refine wc_o_i (vx_runV (As := [.int b]) (rest := [.int 0, .ref (q 19)]) ⟨hx, hb, hml, hown, hts⟩ (c_X3_scoreBits l hst D cy h0 q A S b nb hnb hcb hw) (cwV 1 hts gL_scoreBits_X3_scoreBits rfl rfl rfl (by decide +kernel) ⟨Nat.le_of_ble_eq_true rfl, Nat.le_of_ble_eq_true rfl⟩) ((IH.left hI).preV (k0 := 0) rfl rfl) rfl rfl hl.1 rfl (lv_room (Nat.le_of_ble_eq_true rfl)) dL_scoreBits_4 ⟨Nat.le_of_eq (Nat.zero_add _), Nat.le_of_eq (Nat.zero_add _)⟩) hI hS (fun hex H locs hI hS => ?_) (fun E hex ce q9 H locs hI hS hce hcv hcl => ?_)
  · have hI : IH D cy h0 (wO cy q A S f g) s H := hI
    refine lv_i2l hx hb dL_scoreBits_7 rfl ?_
    refine r_last (w' := wO cy q A S (vp_updL f 0 (((scF (A 0) (A 10 (ix b)) 4).toInt32).toInt64)) g) (q0 := 19) hx hb hI hS hqA hh0 (qA_O hI) rfl rfl dL_scoreBits_8 rfl (fun H locs hI hS => ?_)
    refine lv_goto (tgt := 15) hx hb dL_scoreBits_9 (by decide) ?_
    refine lv_iconst (v := 0) hx hb dL_scoreBits_15 (by decide) ?_
    exact end_w hx hb hr (by rw [hex]; rfl) (by rw [hex]; rfl) (by rw [hex]; rfl) hI (by rw [if_pos hex]) hS dL_scoreBits_16 hlk
  · have hI : IH D cy h0 (wO cy q A S f g) s H := hI
    obtain rfl := ran_scoreBits hex
    refine vx_catch (name := xIOB) hown [] ⟨0, 9, 12, 21⟩ [] (htb.trans rfl) (fun z hz => by
        cases hz) (by decide) (by decide) (hts (.classLink RL 21 "java/lang/IndexOutOfBoundsException") (List.mem_of_getElem? (i := 1) rfl)) (va_Nw.use rfl (hI.1.1.2.2.1 xIOB (List.mem_of_getElem? (i := 2) rfl))) hce hcv hcl ?_
    refine lv_astore_n (lv' := [(3, .ref q9), (0, .ref (q 0)), (1, .int b), (2, .ref (q 19))]) hx hb dL_scoreBits_12 rfl hl (by decide) rfl (fun ls hl => ?_)
    refine lv_iconst (v := 1) hx hb dL_scoreBits_13 (by decide) ?_
    exact end_w hx hb hr (by rw [hex]; decide) (by rw [hex]; rfl) (by rw [hex]; rfl) hI (by rw [if_neg (by rw [hex]; exact Option.some_ne_none _)]) hS dL_scoreBits_14 hlk
theorem ran_isTrusted {b : Int32} {nb : Nat} {E : String} (h : exR b nb xIOB = some E) : E = xIOB := by
  revert h
  unfold exR
  repeat' split
  all_goals (intro h; first | (cases h; done) | (injection h with h; subst h; simp))
set_option maxHeartbeats 4000000 in
set_option maxRecDepth 100000 in
theorem c_L_isTrusted (l : Launch) (hst : l.stackTraces = false) (D : va_G) (cy : Nat → ClassId) (h0 : Nat) (q : Nat → Nat) (A : Nat → Nat → Int32) (S : Nat → Int32) (f : Nat → Int64) (g : Nat → UInt64) (b : Int32) (nb : Nat) (hnb : nb ≤ 24) (hcb : S 5 = nI nb) (htn : ∀ b, b < nb → ∃ t, t < 5 ∧ A 5 b = nI t) : Met l yL_isTrusted wsL_isTrusted (rmX (exR b nb xIOB) 8 124) (va_Pc [.ref (q 0), .int b, .ref (q 19)] (pI D cy h0 (wO cy q A S f g))) (rwI (cd [xIOB] (exR b nb xIOB)) D cy h0 (if exR b nb xIOB = none then wO cy q A S (vp_updL f 0 ((bI (sufB A (A 10 (ix b)) (ix b))).toInt64)) g else wO cy q A S f g) (qA 21 q)) (c1 (exR b nb xIOB)) (c6 (exR b nb xIOB)) (qA 21 q) := by
  refine va_MetW (cc := cL_isTrusted) (maxL := 4) (ret := some .int) (by decide) rfl ?_
  intro p e s m args below meth c s₁ B hml hv
  obtain ⟨rfl, hI⟩ := hv
  have hx := B.exec
  have hb := B.bytes
  have hr := B.returns
  have hts := atoms_spec (ws := wsL_isTrusted) B.pre
  have hown : s.vm.findClass RL = some m.cls := findClass_of_methodNamed B.named
  have hlk := B.notSynchronized
  have htb := vx_table (x := yL_isTrusted) B (hts _ List.mem_cons_self)
  have hI : IH D cy h0 (wO cy q A S f g) s s.heap := hI
  have hqA := hA_O hI
  have hh0 : h0 ≤ s.heap.size := hI.1.2.2.2
  have hS : va_S (qA 21 q) s.heap s.heap [] := va_S.rf
  have hl := lv_entry ([.ref (q 0), .int b, .ref (q 19)]) (n := 4) (Nat.le_of_ble_eq_true rfl)
  rw [lg_entry_eq]
  generalize (lg_sl ([.ref (q 0), .int b, .ref (q 19)]) ++ List.replicate (4 - (lg_sl ([.ref (q 0), .int b, .ref (q 19)])).length) Slot.unset).toArray = ls at hl ⊢
  have hl : lv_has ls 4 [(0, .ref (q 0)), (1, .int b), (2, .ref (q 19))] := hl
  refine lv_aload_n hx hb dL_isTrusted_0 rfl (lv_at hl 2 rfl) ?_
  refine lv_iconst (v := 0) hx hb dL_isTrusted_1 (by decide) ?_
  refine lv_aload_n hx hb dL_isTrusted_2 rfl (lv_at hl 0 rfl) ?_
  refine lv_iload_n hx hb dL_isTrusted_3 rfl (lv_at hl 1 rfl) ?_
  refine wc_o_i (vx_runV (As := [.int b]) (rest := [.int 0, .ref (q 19)]) ⟨hx, hb, hml, hown, hts⟩ (c_X3_isTrusted l hst D cy h0 q A S b nb hnb hcb htn) (cwV 1 hts gL_isTrusted_X3_isTrusted rfl rfl rfl (by decide +kernel) ⟨Nat.le_of_ble_eq_true rfl, Nat.le_of_ble_eq_true rfl⟩) ((IH.left hI).preV (k0 := 0) rfl rfl) rfl rfl hl.1 rfl (lv_room (Nat.le_of_ble_eq_true rfl)) dL_isTrusted_4 ⟨Nat.le_of_eq (Nat.zero_add _), Nat.le_of_eq (Nat.zero_add _)⟩) hI hS (fun hex H locs hI hS => ?_) (fun E hex ce q9 H locs hI hS hce hcv hcl => ?_)
  · have hI : IH D cy h0 (wO cy q A S f g) s H := hI
    refine r_ifeq_b (tgt := 14) hx hb dL_isTrusted_7 (by decide) (fun hB => ?_) (fun hB => ?_)
    · refine lv_lconst (v := 0) hx hb dL_isTrusted_14 (by decide) ?_
      refine r_last (w' := wO cy q A S (vp_updL f 0 (0)) g) (q0 := 19) hx hb hI hS hqA hh0 (qA_O hI) rfl rfl dL_isTrusted_15 rfl (fun H locs hI hS => ?_)
      refine lv_goto (tgt := 22) hx hb dL_isTrusted_16 (by decide) ?_
      refine lv_iconst (v := 0) hx hb dL_isTrusted_22 (by decide) ?_
      exact end_w hx hb hr (by rw [hex]; rfl) (by rw [hex]; rfl) (by rw [hex]; rfl) hI (by rw [if_pos hex, hB]; rfl) hS dL_isTrusted_23 hlk
    · refine lv_lconst (v := 1) hx hb dL_isTrusted_10 (by decide) ?_
      refine lv_goto (tgt := 15) hx hb dL_isTrusted_11 (by decide) ?_
      refine r_last (w' := wO cy q A S (vp_updL f 0 (1)) g) (q0 := 19) hx hb hI hS hqA hh0 (qA_O hI) rfl rfl dL_isTrusted_15 rfl (fun H locs hI hS => ?_)
      refine lv_goto (tgt := 22) hx hb dL_isTrusted_16 (by decide) ?_
      refine lv_iconst (v := 0) hx hb dL_isTrusted_22 (by decide) ?_
      exact end_w hx hb hr (by rw [hex]; rfl) (by rw [hex]; rfl) (by rw [hex]; rfl) hI (by rw [if_pos hex, hB]; rfl) hS dL_isTrusted_23 hlk
  · have hI : IH D cy h0 (wO cy q A S f g) s H := hI
    obtain rfl := ran_isTrusted hex
    refine vx_catch (name := xIOB) hown [] ⟨0, 16, 19, 21⟩ [] (htb.trans rfl) (fun z hz => by
        cases hz) (by decide) (by decide) (hts (.classLink RL 21 "java/lang/IndexOutOfBoundsException") (List.mem_of_getElem? (i := 1) rfl)) (va_Nw.use rfl (hI.1.1.2.2.1 xIOB (List.mem_of_getElem? (i := 2) rfl))) hce hcv hcl ?_
    refine lv_astore_n (lv' := [(3, .ref q9), (0, .ref (q 0)), (1, .int b), (2, .ref (q 19))]) hx hb dL_isTrusted_19 rfl hl (by decide) rfl (fun ls hl => ?_)
    refine lv_iconst (v := 1) hx hb dL_isTrusted_20 (by decide) ?_
    exact end_w hx hb hr (by rw [hex]; decide) (by rw [hex]; rfl) (by rw [hex]; rfl) hI (by rw [if_neg (by rw [hex]; exact Option.some_ne_none _)]) hS dL_isTrusted_21 hlk
theorem ran_hangsOnKey {key : Int32} {nk : Nat} {E : String} (h : exR key nk xIOB = some E) : E = xIOB := by
  revert h
  unfold exR
  repeat' split
  all_goals (intro h; first | (cases h; done) | (injection h with h; subst h; simp))
set_option maxHeartbeats 4000000 in
set_option maxRecDepth 100000 in
theorem c_L_hangsOnKey (l : Launch) (hst : l.stackTraces = false) (D : va_G) (cy : Nat → ClassId) (h0 : Nat) (q : Nat → Nat) (A : Nat → Nat → Int32) (S : Nat → Int32) (f : Nat → Int64) (g : Nat → UInt64) (key : Int32) (nk : Nat) (hnk : nk ≤ 8) (hck : S 3 = nI nk) (nb : Nat) (hnb : nb ≤ 24) (hcb : S 5 = nI nb) (htn : ∀ b, b < nb → ∃ t, t < 5 ∧ A 5 b = nI t) : Met l yL_hangsOnKey wsL_hangsOnKey (rmX (exR key nk xIOB) 8 128) (va_Pc [.ref (q 0), .int key, .ref (q 19)] (pI D cy h0 (wO cy q A S f g))) (rwI (cd [xIOB] (exR key nk xIOB)) D cy h0 (if exR key nk xIOB = none then wO cy q A S (vp_updL f 0 ((hgF A (liveF A S (S 1) nk &&& (ly key ^^^ (-1))) nk nb).toInt64)) g else wO cy q A S f g) (qA 21 q)) (c1 (exR key nk xIOB)) (c6 (exR key nk xIOB)) (qA 21 q) := by
  refine va_MetW (cc := cL_hangsOnKey) (maxL := 4) (ret := some .int) (by decide) rfl ?_
  intro p e s m args below meth c s₁ B hml hv
  obtain ⟨rfl, hI⟩ := hv
  have hx := B.exec
  have hb := B.bytes
  have hr := B.returns
  have hts := atoms_spec (ws := wsL_hangsOnKey) B.pre
  have hown : s.vm.findClass RL = some m.cls := findClass_of_methodNamed B.named
  have hlk := B.notSynchronized
  have htb := vx_table (x := yL_hangsOnKey) B (hts _ List.mem_cons_self)
  have hI : IH D cy h0 (wO cy q A S f g) s s.heap := hI
  have hqA := hA_O hI
  have hh0 : h0 ≤ s.heap.size := hI.1.2.2.2
  have hS : va_S (qA 21 q) s.heap s.heap [] := va_S.rf
  have hl := lv_entry ([.ref (q 0), .int key, .ref (q 19)]) (n := 4) (Nat.le_of_ble_eq_true rfl)
  rw [lg_entry_eq]
  generalize (lg_sl ([.ref (q 0), .int key, .ref (q 19)]) ++ List.replicate (4 - (lg_sl ([.ref (q 0), .int key, .ref (q 19)])).length) Slot.unset).toArray = ls at hl ⊢
  have hl : lv_has ls 4 [(0, .ref (q 0)), (1, .int key), (2, .ref (q 19))] := hl
  refine lv_aload_n hx hb dL_hangsOnKey_0 rfl (lv_at hl 2 rfl) ?_
  refine lv_iconst (v := 0) hx hb dL_hangsOnKey_1 (by decide) ?_
  refine lv_aload_n hx hb dL_hangsOnKey_2 rfl (lv_at hl 0 rfl) ?_
  refine lv_iload_n hx hb dL_hangsOnKey_3 rfl (lv_at hl 1 rfl) ?_
  refine wc_o_i (vx_runV (As := [.int key]) (rest := [.int 0, .ref (q 19)]) ⟨hx, hb, hml, hown, hts⟩ (c_X3_hangsOnKey l hst D cy h0 q A S key nk hnk hck nb hnb hcb htn) (cwV 1 hts gL_hangsOnKey_X3_hangsOnKey rfl rfl rfl (by decide +kernel) ⟨Nat.le_of_ble_eq_true rfl, Nat.le_of_ble_eq_true rfl⟩) ((IH.left hI).preV (k0 := 0) rfl rfl) rfl rfl hl.1 rfl (lv_room (Nat.le_of_ble_eq_true rfl)) dL_hangsOnKey_4 ⟨Nat.le_of_eq (Nat.zero_add _), Nat.le_of_eq (Nat.zero_add _)⟩) hI hS (fun hex H locs hI hS => ?_) (fun E hex ce q9 H locs hI hS hce hcv hcl => ?_)
  · have hI : IH D cy h0 (wO cy q A S f g) s H := hI
    refine lv_i2l hx hb dL_hangsOnKey_7 rfl ?_
    refine r_last (w' := wO cy q A S (vp_updL f 0 ((hgF A (liveF A S (S 1) nk &&& (ly key ^^^ (-1))) nk nb).toInt64)) g) (q0 := 19) hx hb hI hS hqA hh0 (qA_O hI) rfl rfl dL_hangsOnKey_8 rfl (fun H locs hI hS => ?_)
    refine lv_goto (tgt := 15) hx hb dL_hangsOnKey_9 (by decide) ?_
    refine lv_iconst (v := 0) hx hb dL_hangsOnKey_15 (by decide) ?_
    exact end_w hx hb hr (by rw [hex]; rfl) (by rw [hex]; rfl) (by rw [hex]; rfl) hI (by rw [if_pos hex]) hS dL_hangsOnKey_16 hlk
  · have hI : IH D cy h0 (wO cy q A S f g) s H := hI
    obtain rfl := ran_hangsOnKey hex
    refine vx_catch (name := xIOB) hown [] ⟨0, 9, 12, 21⟩ [] (htb.trans rfl) (fun z hz => by
        cases hz) (by decide) (by decide) (hts (.classLink RL 21 "java/lang/IndexOutOfBoundsException") (List.mem_of_getElem? (i := 1) rfl)) (va_Nw.use rfl (hI.1.1.2.2.1 xIOB (List.mem_of_getElem? (i := 2) rfl))) hce hcv hcl ?_
    refine lv_astore_n (lv' := [(3, .ref q9), (0, .ref (q 0)), (1, .int key), (2, .ref (q 19))]) hx hb dL_hangsOnKey_12 rfl hl (by decide) rfl (fun ls hl => ?_)
    refine lv_iconst (v := 1) hx hb dL_hangsOnKey_13 (by decide) ?_
    exact end_w hx hb hr (by rw [hex]; decide) (by rw [hex]; rfl) (by rw [hex]; rfl) hI (by rw [if_neg (by rw [hex]; exact Option.some_ne_none _)]) hS dL_hangsOnKey_14 hlk
theorem ran_recall {S : Nat → Int32} {b : Int32} {nb : Nat} {E : String} (h : exRecall S b nb = some E) : E = xIOB ∨ E = xISE := by
  revert h
  unfold exRecall
  repeat' split
  all_goals (intro h; first | (cases h; done) | (injection h with h; subst h; simp))
set_option maxHeartbeats 4000000 in
set_option maxRecDepth 100000 in
theorem c_L_recall (l : Launch) (hst : l.stackTraces = false) (D : va_G) (cy : Nat → ClassId) (h0 : Nat) (q : Nat → Nat) (A : Nat → Nat → Int32) (S : Nat → Int32) (f : Nat → Int64) (g : Nat → UInt64) (b : Int32) (nb : Nat) (hnb : nb ≤ 24) (hcb : S 5 = nI nb) : Met l yL_recall wsL_recall (rmX (exRecall S b nb) 8 125) (va_Pc [.ref (q 0), .int b, .ref (q 19)] (pI D cy h0 (wO cy q A S f g))) (rwI (cd [xIOB, xISE] (exRecall S b nb)) D cy h0 (if exRecall S b nb = none then wO cy q A (uS S 4 (S 4 ||| ly b)) (vp_updL f 0 ((bcF (rcF (A 7) (S 4 ||| ly b) nb &&& (rcF (A 7) (S 4) nb ^^^ (-1)))).toInt64)) g else wO cy q A S f g) (qA 21 q)) (c1 (exRecall S b nb)) (c6 (exRecall S b nb)) (qA 21 q) := by
  refine va_MetW (cc := cL_recall) (maxL := 4) (ret := some .int) (by decide) rfl ?_
  intro p e s m args below meth c s₁ B hml hv
  obtain ⟨rfl, hI⟩ := hv
  have hx := B.exec
  have hb := B.bytes
  have hr := B.returns
  have hts := atoms_spec (ws := wsL_recall) B.pre
  have hown : s.vm.findClass RL = some m.cls := findClass_of_methodNamed B.named
  have hlk := B.notSynchronized
  have htb := vx_table (x := yL_recall) B (hts _ List.mem_cons_self)
  have hI : IH D cy h0 (wO cy q A S f g) s s.heap := hI
  have hqA := hA_O hI
  have hh0 : h0 ≤ s.heap.size := hI.1.2.2.2
  have hS : va_S (qA 21 q) s.heap s.heap [] := va_S.rf
  have hl := lv_entry ([.ref (q 0), .int b, .ref (q 19)]) (n := 4) (Nat.le_of_ble_eq_true rfl)
  rw [lg_entry_eq]
  generalize (lg_sl ([.ref (q 0), .int b, .ref (q 19)]) ++ List.replicate (4 - (lg_sl ([.ref (q 0), .int b, .ref (q 19)])).length) Slot.unset).toArray = ls at hl ⊢
  have hl : lv_has ls 4 [(0, .ref (q 0)), (1, .int b), (2, .ref (q 19))] := hl
  refine lv_aload_n hx hb dL_recall_0 rfl (lv_at hl 2 rfl) ?_
  refine lv_iconst (v := 0) hx hb dL_recall_1 (by decide) ?_
  refine lv_aload_n hx hb dL_recall_2 rfl (lv_at hl 0 rfl) ?_
  refine lv_iload_n hx hb dL_recall_3 rfl (lv_at hl 1 rfl) ?_
  refine wc_w_i (w1' := wX cy q A (uS S 4 (S 4 ||| ly b))) (vx_runV (As := [.int b]) (rest := [.int 0, .ref (q 19)]) ⟨hx, hb, hml, hown, hts⟩ (c_X3_recall l hst D cy h0 q A S b nb hnb hcb) (cwV 1 hts gL_recall_X3_recall rfl rfl rfl (by decide +kernel) ⟨Nat.le_of_ble_eq_true rfl, Nat.le_of_ble_eq_true rfl⟩) ((IH.left hI).preV (k0 := 0) rfl rfl) rfl rfl hl.1 rfl (lv_room (Nat.le_of_ble_eq_true rfl)) dL_recall_4 ⟨Nat.le_of_eq (Nat.zero_add _), Nat.le_of_eq (Nat.zero_add _)⟩) hI hS q19 rfl in_X (fun hex H locs hI hS => ?_) (fun E hex ce q9 H locs hI hS hce hcv hcl => ?_)
  · have hI : IH D cy h0 (wO cy q A (uS S 4 (S 4 ||| ly b)) f g) s H := hI
    refine lv_i2l hx hb dL_recall_7 rfl ?_
    refine r_last (w' := wO cy q A (uS S 4 (S 4 ||| ly b)) (vp_updL f 0 ((bcF (rcF (A 7) (S 4 ||| ly b) nb &&& (rcF (A 7) (S 4) nb ^^^ (-1)))).toInt64)) g) (q0 := 19) hx hb hI hS hqA hh0 (qA_O hI) rfl rfl dL_recall_8 rfl (fun H locs hI hS => ?_)
    refine lv_goto (tgt := 18) hx hb dL_recall_9 (by decide) ?_
    refine lv_iconst (v := 0) hx hb dL_recall_18 (by decide) ?_
    exact end_w hx hb hr (by rw [hex]; rfl) (by rw [hex]; rfl) (by rw [hex]; rfl) hI (by rw [if_pos hex]) hS dL_recall_19 hlk
  · have hI : IH D cy h0 (wO cy q A S f g) s H := hI
    rcases ran_recall hex with rfl | rfl
    · refine vx_catch (name := xIOB) hown [] ⟨0, 9, 12, 21⟩ [⟨0, 9, 15, 15⟩] (htb.trans rfl) (fun z hz => by
          cases hz) (by decide) (by decide) (hts (.classLink RL 21 "java/lang/IndexOutOfBoundsException") (List.mem_of_getElem? (i := 1) rfl)) (va_Nw.use rfl (hI.1.1.2.2.1 xIOB (List.mem_of_getElem? (i := 2) rfl))) hce hcv hcl ?_
      refine lv_astore_n (lv' := [(3, .ref q9), (0, .ref (q 0)), (1, .int b), (2, .ref (q 19))]) hx hb dL_recall_12 rfl hl (by decide) rfl (fun ls hl => ?_)
      refine lv_iconst (v := 1) hx hb dL_recall_13 (by decide) ?_
      exact end_w hx hb hr (by rw [hex]; decide) (by rw [hex]; rfl) (by rw [hex]; rfl) hI (by rw [if_neg (by rw [hex]; exact Option.some_ne_none _)]) hS dL_recall_14 hlk
    · refine vx_catch (name := xISE) hown [⟨0, 9, 12, 21⟩] ⟨0, 9, 15, 15⟩ [] (htb.trans rfl) (fun z hz => by
          rcases List.mem_cons.mp hz with rfl | hz
          · exact Or.inr ⟨by decide, xIOB, (hts (.classLink RL 21 "java/lang/IndexOutOfBoundsException") (List.mem_of_getElem? (i := 1) rfl)), hI.1.1.2.2.2.2.1 (xISE, xIOB) (List.mem_of_getElem? (i := 5) rfl)⟩
          cases hz) (by decide) (by decide) (hts (.classLink RL 15 "java/lang/IllegalStateException") (List.mem_of_getElem? (i := 2) rfl)) (va_Nw.use rfl (hI.1.1.2.2.1 xISE (List.mem_of_getElem? (i := 1) rfl))) hce hcv hcl ?_
      refine lv_astore_n (lv' := [(3, .ref q9), (0, .ref (q 0)), (1, .int b), (2, .ref (q 19))]) hx hb dL_recall_15 rfl hl (by decide) rfl (fun ls hl => ?_)
      refine lv_iconst (v := 2) hx hb dL_recall_16 (by decide) ?_
      exact end_w hx hb hr (by rw [hex]; decide) (by rw [hex]; rfl) (by rw [hex]; rfl) hI (by rw [if_neg (by rw [hex]; exact Option.some_ne_none _)]) hS dL_recall_17 hlk
theorem ran_lift {S : Nat → Int32} {b : Int32} {nb : Nat} {E : String} (h : exLift S b nb = some E) : E = xIOB ∨ E = xISE := by
  revert h
  unfold exLift
  repeat' split
  all_goals (intro h; first | (cases h; done) | (injection h with h; subst h; simp))
set_option maxHeartbeats 4000000 in
set_option maxRecDepth 100000 in
theorem c_L_lift (l : Launch) (hst : l.stackTraces = false) (D : va_G) (cy : Nat → ClassId) (h0 : Nat) (q : Nat → Nat) (A : Nat → Nat → Int32) (S : Nat → Int32) (f : Nat → Int64) (g : Nat → UInt64) (b : Int32) (nb : Nat) (hnb : nb ≤ 24) (hcb : S 5 = nI nb) : Met l yL_lift wsL_lift (rmX (exLift S b nb) 8 125) (va_Pc [.ref (q 0), .int b, .ref (q 19)] (pI D cy h0 (wO cy q A S f g))) (rwI (cd [xIOB, xISE] (exLift S b nb)) D cy h0 (if exLift S b nb = none then wO cy q A (uS S 4 (S 4 &&& (ly b ^^^ (-1)))) (vp_updL f 0 ((bcF (rcF (A 7) (S 4) nb &&& (rcF (A 7) (S 4 &&& (ly b ^^^ (-1))) nb ^^^ (-1)))).toInt64)) g else wO cy q A S f g) (qA 21 q)) (c1 (exLift S b nb)) (c6 (exLift S b nb)) (qA 21 q) := by
  refine va_MetW (cc := cL_lift) (maxL := 4) (ret := some .int) (by decide) rfl ?_
  intro p e s m args below meth c s₁ B hml hv
  obtain ⟨rfl, hI⟩ := hv
  have hx := B.exec
  have hb := B.bytes
  have hr := B.returns
  have hts := atoms_spec (ws := wsL_lift) B.pre
  have hown : s.vm.findClass RL = some m.cls := findClass_of_methodNamed B.named
  have hlk := B.notSynchronized
  have htb := vx_table (x := yL_lift) B (hts _ List.mem_cons_self)
  have hI : IH D cy h0 (wO cy q A S f g) s s.heap := hI
  have hqA := hA_O hI
  have hh0 : h0 ≤ s.heap.size := hI.1.2.2.2
  have hS : va_S (qA 21 q) s.heap s.heap [] := va_S.rf
  have hl := lv_entry ([.ref (q 0), .int b, .ref (q 19)]) (n := 4) (Nat.le_of_ble_eq_true rfl)
  rw [lg_entry_eq]
  generalize (lg_sl ([.ref (q 0), .int b, .ref (q 19)]) ++ List.replicate (4 - (lg_sl ([.ref (q 0), .int b, .ref (q 19)])).length) Slot.unset).toArray = ls at hl ⊢
  have hl : lv_has ls 4 [(0, .ref (q 0)), (1, .int b), (2, .ref (q 19))] := hl
  refine lv_aload_n hx hb dL_lift_0 rfl (lv_at hl 2 rfl) ?_
  refine lv_iconst (v := 0) hx hb dL_lift_1 (by decide) ?_
  refine lv_aload_n hx hb dL_lift_2 rfl (lv_at hl 0 rfl) ?_
  refine lv_iload_n hx hb dL_lift_3 rfl (lv_at hl 1 rfl) ?_
  refine wc_w_i (w1' := wX cy q A (uS S 4 (S 4 &&& (ly b ^^^ (-1))))) (vx_runV (As := [.int b]) (rest := [.int 0, .ref (q 19)]) ⟨hx, hb, hml, hown, hts⟩ (c_X3_lift l hst D cy h0 q A S b nb hnb hcb) (cwV 1 hts gL_lift_X3_lift rfl rfl rfl (by decide +kernel) ⟨Nat.le_of_ble_eq_true rfl, Nat.le_of_ble_eq_true rfl⟩) ((IH.left hI).preV (k0 := 0) rfl rfl) rfl rfl hl.1 rfl (lv_room (Nat.le_of_ble_eq_true rfl)) dL_lift_4 ⟨Nat.le_of_eq (Nat.zero_add _), Nat.le_of_eq (Nat.zero_add _)⟩) hI hS q19 rfl in_X (fun hex H locs hI hS => ?_) (fun E hex ce q9 H locs hI hS hce hcv hcl => ?_)
  · have hI : IH D cy h0 (wO cy q A (uS S 4 (S 4 &&& (ly b ^^^ (-1)))) f g) s H := hI
    refine lv_i2l hx hb dL_lift_7 rfl ?_
    refine r_last (w' := wO cy q A (uS S 4 (S 4 &&& (ly b ^^^ (-1)))) (vp_updL f 0 ((bcF (rcF (A 7) (S 4) nb &&& (rcF (A 7) (S 4 &&& (ly b ^^^ (-1))) nb ^^^ (-1)))).toInt64)) g) (q0 := 19) hx hb hI hS hqA hh0 (qA_O hI) rfl rfl dL_lift_8 rfl (fun H locs hI hS => ?_)
    refine lv_goto (tgt := 18) hx hb dL_lift_9 (by decide) ?_
    refine lv_iconst (v := 0) hx hb dL_lift_18 (by decide) ?_
    exact end_w hx hb hr (by rw [hex]; rfl) (by rw [hex]; rfl) (by rw [hex]; rfl) hI (by rw [if_pos hex]) hS dL_lift_19 hlk
  · have hI : IH D cy h0 (wO cy q A S f g) s H := hI
    rcases ran_lift hex with rfl | rfl
    · refine vx_catch (name := xIOB) hown [] ⟨0, 9, 12, 21⟩ [⟨0, 9, 15, 15⟩] (htb.trans rfl) (fun z hz => by
          cases hz) (by decide) (by decide) (hts (.classLink RL 21 "java/lang/IndexOutOfBoundsException") (List.mem_of_getElem? (i := 1) rfl)) (va_Nw.use rfl (hI.1.1.2.2.1 xIOB (List.mem_of_getElem? (i := 2) rfl))) hce hcv hcl ?_
      refine lv_astore_n (lv' := [(3, .ref q9), (0, .ref (q 0)), (1, .int b), (2, .ref (q 19))]) hx hb dL_lift_12 rfl hl (by decide) rfl (fun ls hl => ?_)
      refine lv_iconst (v := 1) hx hb dL_lift_13 (by decide) ?_
      exact end_w hx hb hr (by rw [hex]; decide) (by rw [hex]; rfl) (by rw [hex]; rfl) hI (by rw [if_neg (by rw [hex]; exact Option.some_ne_none _)]) hS dL_lift_14 hlk
    · refine vx_catch (name := xISE) hown [⟨0, 9, 12, 21⟩] ⟨0, 9, 15, 15⟩ [] (htb.trans rfl) (fun z hz => by
          rcases List.mem_cons.mp hz with rfl | hz
          · exact Or.inr ⟨by decide, xIOB, (hts (.classLink RL 21 "java/lang/IndexOutOfBoundsException") (List.mem_of_getElem? (i := 1) rfl)), hI.1.1.2.2.2.2.1 (xISE, xIOB) (List.mem_of_getElem? (i := 5) rfl)⟩
          cases hz) (by decide) (by decide) (hts (.classLink RL 15 "java/lang/IllegalStateException") (List.mem_of_getElem? (i := 2) rfl)) (va_Nw.use rfl (hI.1.1.2.2.1 xISE (List.mem_of_getElem? (i := 1) rfl))) hce hcv hcl ?_
      refine lv_astore_n (lv' := [(3, .ref q9), (0, .ref (q 0)), (1, .int b), (2, .ref (q 19))]) hx hb dL_lift_15 rfl hl (by decide) rfl (fun ls hl => ?_)
      refine lv_iconst (v := 2) hx hb dL_lift_16 (by decide) ?_
      exact end_w hx hb hr (by rw [hex]; decide) (by rw [hex]; rfl) (by rw [hex]; rfl) hI (by rw [if_neg (by rw [hex]; exact Option.some_ne_none _)]) hS dL_lift_17 hlk
theorem ran_isRecalled {b : Int32} {nb : Nat} {E : String} (h : exR b nb xIOB = some E) : E = xIOB := by
  revert h
  unfold exR
  repeat' split
  all_goals (intro h; first | (cases h; done) | (injection h with h; subst h; simp))
set_option maxHeartbeats 4000000 in
set_option maxRecDepth 100000 in
theorem c_L_isRecalled (l : Launch) (hst : l.stackTraces = false) (D : va_G) (cy : Nat → ClassId) (h0 : Nat) (q : Nat → Nat) (A : Nat → Nat → Int32) (S : Nat → Int32) (f : Nat → Int64) (g : Nat → UInt64) (b : Int32) (nb : Nat) (hnb : nb ≤ 24) (hcb : S 5 = nI nb) : Met l yL_isRecalled wsL_isRecalled (rmX (exR b nb xIOB) 8 124) (va_Pc [.ref (q 0), .int b, .ref (q 19)] (pI D cy h0 (wO cy q A S f g))) (rwI (cd [xIOB] (exR b nb xIOB)) D cy h0 (if exR b nb xIOB = none then wO cy q A S (vp_updL f 0 ((bI (hold (rcF (A 7) (S 4) nb) b)).toInt64)) g else wO cy q A S f g) (qA 21 q)) (c1 (exR b nb xIOB)) (c6 (exR b nb xIOB)) (qA 21 q) := by
  refine va_MetW (cc := cL_isRecalled) (maxL := 4) (ret := some .int) (by decide) rfl ?_
  intro p e s m args below meth c s₁ B hml hv
  obtain ⟨rfl, hI⟩ := hv
  have hx := B.exec
  have hb := B.bytes
  have hr := B.returns
  have hts := atoms_spec (ws := wsL_isRecalled) B.pre
  have hown : s.vm.findClass RL = some m.cls := findClass_of_methodNamed B.named
  have hlk := B.notSynchronized
  have htb := vx_table (x := yL_isRecalled) B (hts _ List.mem_cons_self)
  have hI : IH D cy h0 (wO cy q A S f g) s s.heap := hI
  have hqA := hA_O hI
  have hh0 : h0 ≤ s.heap.size := hI.1.2.2.2
  have hS : va_S (qA 21 q) s.heap s.heap [] := va_S.rf
  have hl := lv_entry ([.ref (q 0), .int b, .ref (q 19)]) (n := 4) (Nat.le_of_ble_eq_true rfl)
  rw [lg_entry_eq]
  generalize (lg_sl ([.ref (q 0), .int b, .ref (q 19)]) ++ List.replicate (4 - (lg_sl ([.ref (q 0), .int b, .ref (q 19)])).length) Slot.unset).toArray = ls at hl ⊢
  have hl : lv_has ls 4 [(0, .ref (q 0)), (1, .int b), (2, .ref (q 19))] := hl
  refine lv_aload_n hx hb dL_isRecalled_0 rfl (lv_at hl 2 rfl) ?_
  refine lv_iconst (v := 0) hx hb dL_isRecalled_1 (by decide) ?_
  refine lv_aload_n hx hb dL_isRecalled_2 rfl (lv_at hl 0 rfl) ?_
  refine lv_iload_n hx hb dL_isRecalled_3 rfl (lv_at hl 1 rfl) ?_
  refine wc_o_i (vx_runV (As := [.int b]) (rest := [.int 0, .ref (q 19)]) ⟨hx, hb, hml, hown, hts⟩ (c_X3_isRecalled l hst D cy h0 q A S b nb hnb hcb) (cwV 1 hts gL_isRecalled_X3_isRecalled rfl rfl rfl (by decide +kernel) ⟨Nat.le_of_ble_eq_true rfl, Nat.le_of_ble_eq_true rfl⟩) ((IH.left hI).preV (k0 := 0) rfl rfl) rfl rfl hl.1 rfl (lv_room (Nat.le_of_ble_eq_true rfl)) dL_isRecalled_4 ⟨Nat.le_of_eq (Nat.zero_add _), Nat.le_of_eq (Nat.zero_add _)⟩) hI hS (fun hex H locs hI hS => ?_) (fun E hex ce q9 H locs hI hS hce hcv hcl => ?_)
  · have hI : IH D cy h0 (wO cy q A S f g) s H := hI
    refine r_ifeq_b (tgt := 14) hx hb dL_isRecalled_7 (by decide) (fun hB => ?_) (fun hB => ?_)
    · refine lv_lconst (v := 0) hx hb dL_isRecalled_14 (by decide) ?_
      refine r_last (w' := wO cy q A S (vp_updL f 0 (0)) g) (q0 := 19) hx hb hI hS hqA hh0 (qA_O hI) rfl rfl dL_isRecalled_15 rfl (fun H locs hI hS => ?_)
      refine lv_goto (tgt := 22) hx hb dL_isRecalled_16 (by decide) ?_
      refine lv_iconst (v := 0) hx hb dL_isRecalled_22 (by decide) ?_
      exact end_w hx hb hr (by rw [hex]; rfl) (by rw [hex]; rfl) (by rw [hex]; rfl) hI (by rw [if_pos hex, hB]; rfl) hS dL_isRecalled_23 hlk
    · refine lv_lconst (v := 1) hx hb dL_isRecalled_10 (by decide) ?_
      refine lv_goto (tgt := 15) hx hb dL_isRecalled_11 (by decide) ?_
      refine r_last (w' := wO cy q A S (vp_updL f 0 (1)) g) (q0 := 19) hx hb hI hS hqA hh0 (qA_O hI) rfl rfl dL_isRecalled_15 rfl (fun H locs hI hS => ?_)
      refine lv_goto (tgt := 22) hx hb dL_isRecalled_16 (by decide) ?_
      refine lv_iconst (v := 0) hx hb dL_isRecalled_22 (by decide) ?_
      exact end_w hx hb hr (by rw [hex]; rfl) (by rw [hex]; rfl) (by rw [hex]; rfl) hI (by rw [if_pos hex, hB]; rfl) hS dL_isRecalled_23 hlk
  · have hI : IH D cy h0 (wO cy q A S f g) s H := hI
    obtain rfl := ran_isRecalled hex
    refine vx_catch (name := xIOB) hown [] ⟨0, 16, 19, 21⟩ [] (htb.trans rfl) (fun z hz => by
        cases hz) (by decide) (by decide) (hts (.classLink RL 21 "java/lang/IndexOutOfBoundsException") (List.mem_of_getElem? (i := 1) rfl)) (va_Nw.use rfl (hI.1.1.2.2.1 xIOB (List.mem_of_getElem? (i := 2) rfl))) hce hcv hcl ?_
    refine lv_astore_n (lv' := [(3, .ref q9), (0, .ref (q 0)), (1, .int b), (2, .ref (q 19))]) hx hb dL_isRecalled_19 rfl hl (by decide) rfl (fun ls hl => ?_)
    refine lv_iconst (v := 1) hx hb dL_isRecalled_20 (by decide) ?_
    exact end_w hx hb hr (by rw [hex]; decide) (by rw [hex]; rfl) (by rw [hex]; rfl) hI (by rw [if_neg (by rw [hex]; exact Option.some_ne_none _)]) hS dL_isRecalled_21 hlk
theorem ran_rebuild {A : Nat → Nat → Int32} {b : Int32} {nb : Nat} {E : String} (h : exRebuild A b nb = some E) : E = xIOB ∨ E = xISE := by
  revert h
  unfold exRebuild
  repeat' split
  all_goals (intro h; first | (cases h; done) | (injection h with h; subst h; simp))
set_option maxHeartbeats 4000000 in
set_option maxRecDepth 100000 in
theorem c_L_rebuild (l : Launch) (hst : l.stackTraces = false) (D : va_G) (cy : Nat → ClassId) (h0 : Nat) (q : Nat → Nat) (A : Nat → Nat → Int32) (S : Nat → Int32) (f : Nat → Int64) (g : Nat → UInt64) (b : Int32) (r : Int32) (nb : Nat) (hnb : nb ≤ 24) (hcb : S 5 = nI nb) : Met l yL_rebuild wsL_rebuild (rmX (exRebuild A b nb) 8 126) (va_Pc [.ref (q 0), .int b, .int r, .ref (q 19)] (pI D cy h0 (wO cy q A S f g))) (rwI (cd [xIOB, xISE] (exRebuild A b nb)) D cy h0 (if exRebuild A b nb = none then wO cy q (rbA A b r) S (vp_updL f 0 ((bI (decide (r = A 8 (ix b)))).toInt64)) g else wO cy q A S f g) (qA 21 q)) (c1 (exRebuild A b nb)) (c6 (exRebuild A b nb)) (qA 21 q) := by
  refine va_MetW (cc := cL_rebuild) (maxL := 5) (ret := some .int) (by decide) rfl ?_
  intro p e s m args below meth c s₁ B hml hv
  obtain ⟨rfl, hI⟩ := hv
  have hx := B.exec
  have hb := B.bytes
  have hr := B.returns
  have hts := atoms_spec (ws := wsL_rebuild) B.pre
  have hown : s.vm.findClass RL = some m.cls := findClass_of_methodNamed B.named
  have hlk := B.notSynchronized
  have htb := vx_table (x := yL_rebuild) B (hts _ List.mem_cons_self)
  have hI : IH D cy h0 (wO cy q A S f g) s s.heap := hI
  have hqA := hA_O hI
  have hh0 : h0 ≤ s.heap.size := hI.1.2.2.2
  have hS : va_S (qA 21 q) s.heap s.heap [] := va_S.rf
  have hl := lv_entry ([.ref (q 0), .int b, .int r, .ref (q 19)]) (n := 5) (Nat.le_of_ble_eq_true rfl)
  rw [lg_entry_eq]
  generalize (lg_sl ([.ref (q 0), .int b, .int r, .ref (q 19)]) ++ List.replicate (5 - (lg_sl ([.ref (q 0), .int b, .int r, .ref (q 19)])).length) Slot.unset).toArray = ls at hl ⊢
  have hl : lv_has ls 5 [(0, .ref (q 0)), (1, .int b), (2, .int r), (3, .ref (q 19))] := hl
  refine lv_aload_n hx hb dL_rebuild_0 rfl (lv_at hl 3 rfl) ?_
  refine lv_iconst (v := 0) hx hb dL_rebuild_1 (by decide) ?_
  refine lv_aload_n hx hb dL_rebuild_2 rfl (lv_at hl 0 rfl) ?_
  refine lv_iload_n hx hb dL_rebuild_3 rfl (lv_at hl 1 rfl) ?_
  refine lv_iload_n hx hb dL_rebuild_4 rfl (lv_at hl 2 rfl) ?_
  refine wc_w_i (w1' := wX cy q (rbA A b r) S) (vx_runV (As := [.int b, .int r]) (rest := [.int 0, .ref (q 19)]) ⟨hx, hb, hml, hown, hts⟩ (c_X3_rebuild l hst D cy h0 q A S b r nb hnb hcb) (cwV 2 hts gL_rebuild_X3_rebuild rfl rfl rfl (by decide +kernel) ⟨Nat.le_of_ble_eq_true rfl, Nat.le_of_ble_eq_true rfl⟩) ((IH.left hI).preV (k0 := 0) rfl rfl) rfl rfl hl.1 rfl (lv_room (Nat.le_of_ble_eq_true rfl)) dL_rebuild_5 ⟨Nat.le_of_eq (Nat.zero_add _), Nat.le_of_eq (Nat.zero_add _)⟩) hI hS q19 rfl in_X (fun hex H locs hI hS => ?_) (fun E hex ce q9 H locs hI hS hce hcv hcl => ?_)
  · have hI : IH D cy h0 (wO cy q (rbA A b r) S f g) s H := hI
    refine r_ifeq_b (tgt := 15) hx hb dL_rebuild_8 (by decide) (fun hB => ?_) (fun hB => ?_)
    · refine lv_lconst (v := 0) hx hb dL_rebuild_15 (by decide) ?_
      refine r_last (w' := wO cy q (rbA A b r) S (vp_updL f 0 (0)) g) (q0 := 19) hx hb hI hS hqA hh0 (qA_O hI) rfl rfl dL_rebuild_16 rfl (fun H locs hI hS => ?_)
      refine lv_goto (tgt := 28) hx hb dL_rebuild_17 (by decide) ?_
      refine lv_iconst (v := 0) hx hb dL_rebuild_28 (by decide) ?_
      exact end_w hx hb hr (by rw [hex]; rfl) (by rw [hex]; rfl) (by rw [hex]; rfl) hI (by rw [if_pos hex, hB]; rfl) hS dL_rebuild_29 hlk
    · refine lv_lconst (v := 1) hx hb dL_rebuild_11 (by decide) ?_
      refine lv_goto (tgt := 16) hx hb dL_rebuild_12 (by decide) ?_
      refine r_last (w' := wO cy q (rbA A b r) S (vp_updL f 0 (1)) g) (q0 := 19) hx hb hI hS hqA hh0 (qA_O hI) rfl rfl dL_rebuild_16 rfl (fun H locs hI hS => ?_)
      refine lv_goto (tgt := 28) hx hb dL_rebuild_17 (by decide) ?_
      refine lv_iconst (v := 0) hx hb dL_rebuild_28 (by decide) ?_
      exact end_w hx hb hr (by rw [hex]; rfl) (by rw [hex]; rfl) (by rw [hex]; rfl) hI (by rw [if_pos hex, hB]; rfl) hS dL_rebuild_29 hlk
  · have hI : IH D cy h0 (wO cy q A S f g) s H := hI
    rcases ran_rebuild hex with rfl | rfl
    · refine vx_catch (name := xIOB) hown [] ⟨0, 17, 20, 21⟩ [⟨0, 17, 24, 15⟩] (htb.trans rfl) (fun z hz => by
          cases hz) (by decide) (by decide) (hts (.classLink RL 21 "java/lang/IndexOutOfBoundsException") (List.mem_of_getElem? (i := 1) rfl)) (va_Nw.use rfl (hI.1.1.2.2.1 xIOB (List.mem_of_getElem? (i := 2) rfl))) hce hcv hcl ?_
      refine lv_astore (lv' := [(4, .ref q9), (0, .ref (q 0)), (1, .int b), (2, .int r), (3, .ref (q 19))]) hx hb dL_rebuild_20 hl (by decide) rfl (fun ls hl => ?_)
      refine lv_iconst (v := 1) hx hb dL_rebuild_22 (by decide) ?_
      exact end_w hx hb hr (by rw [hex]; decide) (by rw [hex]; rfl) (by rw [hex]; rfl) hI (by rw [if_neg (by rw [hex]; exact Option.some_ne_none _)]) hS dL_rebuild_23 hlk
    · refine vx_catch (name := xISE) hown [⟨0, 17, 20, 21⟩] ⟨0, 17, 24, 15⟩ [] (htb.trans rfl) (fun z hz => by
          rcases List.mem_cons.mp hz with rfl | hz
          · exact Or.inr ⟨by decide, xIOB, (hts (.classLink RL 21 "java/lang/IndexOutOfBoundsException") (List.mem_of_getElem? (i := 1) rfl)), hI.1.1.2.2.2.2.1 (xISE, xIOB) (List.mem_of_getElem? (i := 5) rfl)⟩
          cases hz) (by decide) (by decide) (hts (.classLink RL 15 "java/lang/IllegalStateException") (List.mem_of_getElem? (i := 2) rfl)) (va_Nw.use rfl (hI.1.1.2.2.1 xISE (List.mem_of_getElem? (i := 1) rfl))) hce hcv hcl ?_
      refine lv_astore (lv' := [(4, .ref q9), (0, .ref (q 0)), (1, .int b), (2, .int r), (3, .ref (q 19))]) hx hb dL_rebuild_24 hl (by decide) rfl (fun ls hl => ?_)
      refine lv_iconst (v := 2) hx hb dL_rebuild_26 (by decide) ?_
      exact end_w hx hb hr (by rw [hex]; decide) (by rw [hex]; rfl) (by rw [hex]; rfl) hI (by rw [if_neg (by rw [hex]; exact Option.some_ne_none _)]) hS dL_rebuild_27 hlk
theorem ran_share {A : Nat → Nat → Int32} {b : Int32} {nb : Nat} {E : String} (h : exShare A b nb = some E) : E = xIOB ∨ E = xNSE := by
  revert h
  unfold exShare
  repeat' split
  all_goals (intro h; first | (cases h; done) | (injection h with h; subst h; simp))
set_option maxHeartbeats 4000000 in
set_option maxRecDepth 100000 in
theorem c_L_share (l : Launch) (hst : l.stackTraces = false) (D : va_G) (cy : Nat → ClassId) (h0 : Nat) (q : Nat → Nat) (A : Nat → Nat → Int32) (S : Nat → Int32) (f : Nat → Int64) (g : Nat → UInt64) (b : Int32) (nb : Nat) (hnb : nb ≤ 24) (hcb : S 5 = nI nb) : Met l yL_share wsL_share (rmX (exShare A b nb) 8 125) (va_Pc [.ref (q 0), .int b, .ref (q 20)] (pI D cy h0 (wO cy q A S f g))) (rwI (cd [xIOB, xNSE] (exShare A b nb)) D cy h0 (if exShare A b nb = none then wO cy q A S f (vf_upd g 0 (FP.f2d (FP.fdiv (FP.i2f (A 12 (ix b))) (FP.i2f (A 11 (ix b)))))) else wO cy q A S f g) (qA 21 q)) (c1 (exShare A b nb)) (c6 (exShare A b nb)) (qA 21 q) := by
  refine va_MetW (cc := cL_share) (maxL := 4) (ret := some .int) (by decide) rfl ?_
  intro p e s m args below meth c s₁ B hml hv
  obtain ⟨rfl, hI⟩ := hv
  have hx := B.exec
  have hb := B.bytes
  have hr := B.returns
  have hts := atoms_spec (ws := wsL_share) B.pre
  have hown : s.vm.findClass RL = some m.cls := findClass_of_methodNamed B.named
  have hlk := B.notSynchronized
  have htb := vx_table (x := yL_share) B (hts _ List.mem_cons_self)
  have hI : IH D cy h0 (wO cy q A S f g) s s.heap := hI
  have hqA := hA_O hI
  have hh0 : h0 ≤ s.heap.size := hI.1.2.2.2
  have hS : va_S (qA 21 q) s.heap s.heap [] := va_S.rf
  have hl := lv_entry ([.ref (q 0), .int b, .ref (q 20)]) (n := 4) (Nat.le_of_ble_eq_true rfl)
  rw [lg_entry_eq]
  generalize (lg_sl ([.ref (q 0), .int b, .ref (q 20)]) ++ List.replicate (4 - (lg_sl ([.ref (q 0), .int b, .ref (q 20)])).length) Slot.unset).toArray = ls at hl ⊢
  have hl : lv_has ls 4 [(0, .ref (q 0)), (1, .int b), (2, .ref (q 20))] := hl
  refine lv_aload_n hx hb dL_share_0 rfl (lv_at hl 2 rfl) ?_
  refine lv_iconst (v := 0) hx hb dL_share_1 (by decide) ?_
  refine lv_aload_n hx hb dL_share_2 rfl (lv_at hl 0 rfl) ?_
  refine lv_iload_n hx hb dL_share_3 rfl (lv_at hl 1 rfl) ?_
  refine wc_o_f (vx_runV (As := [.int b]) (rest := [.int 0, .ref (q 20)]) ⟨hx, hb, hml, hown, hts⟩ (c_X3_share l hst D cy h0 q A S b nb hnb hcb) (cwV 1 hts gL_share_X3_share rfl rfl rfl (by decide +kernel) ⟨Nat.le_of_ble_eq_true rfl, Nat.le_of_ble_eq_true rfl⟩) ((IH.left hI).preV (k0 := 0) rfl rfl) rfl rfl hl.1 rfl (lv_room (Nat.le_of_ble_eq_true rfl)) dL_share_4 ⟨Nat.le_of_eq (Nat.zero_add _), Nat.le_of_eq (Nat.zero_add _)⟩) hI hS (fun hex H locs hI hS => ?_) (fun E hex ce q9 H locs hI hS hce hcv hcl => ?_)
  · have hI : IH D cy h0 (wO cy q A S f g) s H := hI
    refine lv_f2d hx hb dL_share_7 (f2d_nn (sh_nn (ex_sh hex))) ?_
    refine r_dast (w' := wO cy q A S f (vf_upd g 0 (FP.f2d (FP.fdiv (FP.i2f (A 12 (ix b))) (FP.i2f (A 11 (ix b))))))) (q0 := 20) hx hb hI hS hqA hh0 (qA_O hI) rfl rfl dL_share_8 rfl (fun H locs hI hS => ?_)
    refine lv_goto (tgt := 18) hx hb dL_share_9 (by decide) ?_
    refine lv_iconst (v := 0) hx hb dL_share_18 (by decide) ?_
    exact end_w hx hb hr (by rw [hex]; rfl) (by rw [hex]; rfl) (by rw [hex]; rfl) hI (by rw [if_pos hex]) hS dL_share_19 hlk
  · have hI : IH D cy h0 (wO cy q A S f g) s H := hI
    rcases ran_share hex with rfl | rfl
    · refine vx_catch (name := xIOB) hown [] ⟨0, 9, 12, 21⟩ [⟨0, 9, 15, 58⟩] (htb.trans rfl) (fun z hz => by
          cases hz) (by decide) (by decide) (hts (.classLink RL 21 "java/lang/IndexOutOfBoundsException") (List.mem_of_getElem? (i := 1) rfl)) (va_Nw.use rfl (hI.1.1.2.2.1 xIOB (List.mem_of_getElem? (i := 2) rfl))) hce hcv hcl ?_
      refine lv_astore_n (lv' := [(3, .ref q9), (0, .ref (q 0)), (1, .int b), (2, .ref (q 20))]) hx hb dL_share_12 rfl hl (by decide) rfl (fun ls hl => ?_)
      refine lv_iconst (v := 1) hx hb dL_share_13 (by decide) ?_
      exact end_w hx hb hr (by rw [hex]; decide) (by rw [hex]; rfl) (by rw [hex]; rfl) hI (by rw [if_neg (by rw [hex]; exact Option.some_ne_none _)]) hS dL_share_14 hlk
    · refine vx_catch (name := xNSE) hown [⟨0, 9, 12, 21⟩] ⟨0, 9, 15, 58⟩ [] (htb.trans rfl) (fun z hz => by
          rcases List.mem_cons.mp hz with rfl | hz
          · exact Or.inr ⟨by decide, xIOB, (hts (.classLink RL 21 "java/lang/IndexOutOfBoundsException") (List.mem_of_getElem? (i := 1) rfl)), hI.1.1.2.2.2.2.1 (xNSE, xIOB) (List.mem_of_getElem? (i := 18) rfl)⟩
          cases hz) (by decide) (by decide) (hts (.classLink RL 58 "java/util/NoSuchElementException") (List.mem_of_getElem? (i := 2) rfl)) (va_Nw.use rfl (hI.1.1.2.2.1 xNSE (List.mem_of_getElem? (i := 4) rfl))) hce hcv hcl ?_
      refine lv_astore_n (lv' := [(3, .ref q9), (0, .ref (q 0)), (1, .int b), (2, .ref (q 20))]) hx hb dL_share_15 rfl hl (by decide) rfl (fun ls hl => ?_)
      refine lv_iconst (v := 2) hx hb dL_share_16 (by decide) ?_
      exact end_w hx hb hr (by rw [hex]; decide) (by rw [hex]; rfl) (by rw [hex]; rfl) hI (by rw [if_neg (by rw [hex]; exact Option.some_ne_none _)]) hS dL_share_17 hlk
theorem ran_addMirror {S : Nat → Int32} {E : String} (h : exAddMirror S = some E) : E = xISE := by
  revert h
  unfold exAddMirror
  repeat' split
  all_goals (intro h; first | (cases h; done) | (injection h with h; subst h; simp))
set_option maxHeartbeats 4000000 in
set_option maxRecDepth 100000 in
theorem c_L_addMirror (l : Launch) (hst : l.stackTraces = false) (D : va_G) (cy : Nat → ClassId) (h0 : Nat) (q : Nat → Nat) (A : Nat → Nat → Int32) (S : Nat → Int32) (f : Nat → Int64) (g : Nat → UInt64) (nm : Nat) (hnm : nm ≤ 3) (hcm : S 6 = nI nm) : Met l yL_addMirror wsL_addMirror (rmX (exAddMirror S) 7 102) (va_Pc [.ref (q 0), .ref (q 19)] (pI D cy h0 (wO cy q A S f g))) (rwI (cd [xISE] (exAddMirror S)) D cy h0 (if exAddMirror S = none then wO cy q (uA (uA A 13 (upd (A 13) nm (-1))) 14 (upd (A 14) nm 0)) (uS S 6 (S 6 + 1)) (vp_updL f 0 ((S 6).toInt64)) g else wO cy q A S f g) (qA 21 q)) (c1 (exAddMirror S)) (c6 (exAddMirror S)) (qA 21 q) := by
  refine va_MetW (cc := cL_addMirror) (maxL := 3) (ret := some .int) (by decide) rfl ?_
  intro p e s m args below meth c s₁ B hml hv
  obtain ⟨rfl, hI⟩ := hv
  have hx := B.exec
  have hb := B.bytes
  have hr := B.returns
  have hts := atoms_spec (ws := wsL_addMirror) B.pre
  have hown : s.vm.findClass RL = some m.cls := findClass_of_methodNamed B.named
  have hlk := B.notSynchronized
  have htb := vx_table (x := yL_addMirror) B (hts _ List.mem_cons_self)
  have hI : IH D cy h0 (wO cy q A S f g) s s.heap := hI
  have hqA := hA_O hI
  have hh0 : h0 ≤ s.heap.size := hI.1.2.2.2
  have hS : va_S (qA 21 q) s.heap s.heap [] := va_S.rf
  have hl := lv_entry ([.ref (q 0), .ref (q 19)]) (n := 3) (Nat.le_of_ble_eq_true rfl)
  rw [lg_entry_eq]
  generalize (lg_sl ([.ref (q 0), .ref (q 19)]) ++ List.replicate (3 - (lg_sl ([.ref (q 0), .ref (q 19)])).length) Slot.unset).toArray = ls at hl ⊢
  have hl : lv_has ls 3 [(0, .ref (q 0)), (1, .ref (q 19))] := hl
  refine lv_aload_n hx hb dL_addMirror_0 rfl (lv_at hl 1 rfl) ?_
  refine lv_iconst (v := 0) hx hb dL_addMirror_1 (by decide) ?_
  refine lv_aload_n hx hb dL_addMirror_2 rfl (lv_at hl 0 rfl) ?_
  refine wc_w_i (w1' := wX cy q (uA (uA A 13 (upd (A 13) nm (-1))) 14 (upd (A 14) nm 0)) (uS S 6 (S 6 + 1))) (vx_runV (As := []) (rest := [.int 0, .ref (q 19)]) ⟨hx, hb, hml, hown, hts⟩ (c_X3_addMirror l hst D cy h0 q A S  nm hnm hcm) (cwV 0 hts gL_addMirror_X3_addMirror rfl rfl rfl (by decide +kernel) ⟨Nat.le_of_ble_eq_true rfl, Nat.le_of_ble_eq_true rfl⟩) ((IH.left hI).preV (k0 := 0) rfl rfl) rfl rfl hl.1 rfl (lv_room (Nat.le_of_ble_eq_true rfl)) dL_addMirror_3 ⟨Nat.le_of_eq (Nat.zero_add _), Nat.le_of_eq (Nat.zero_add _)⟩) hI hS q19 rfl in_X (fun hex H locs hI hS => ?_) (fun E hex ce q9 H locs hI hS hce hcv hcl => ?_)
  · have hI : IH D cy h0 (wO cy q (uA (uA A 13 (upd (A 13) nm (-1))) 14 (upd (A 14) nm 0)) (uS S 6 (S 6 + 1)) f g) s H := hI
    refine lv_i2l hx hb dL_addMirror_6 rfl ?_
    refine r_last (w' := wO cy q (uA (uA A 13 (upd (A 13) nm (-1))) 14 (upd (A 14) nm 0)) (uS S 6 (S 6 + 1)) (vp_updL f 0 ((S 6).toInt64)) g) (q0 := 19) hx hb hI hS hqA hh0 (qA_O hI) rfl rfl dL_addMirror_7 rfl (fun H locs hI hS => ?_)
    refine lv_goto (tgt := 14) hx hb dL_addMirror_8 (by decide) ?_
    refine lv_iconst (v := 0) hx hb dL_addMirror_14 (by decide) ?_
    exact end_w hx hb hr (by rw [hex]; rfl) (by rw [hex]; rfl) (by rw [hex]; rfl) hI (by rw [if_pos hex]) hS dL_addMirror_15 hlk
  · have hI : IH D cy h0 (wO cy q A S f g) s H := hI
    obtain rfl := ran_addMirror hex
    refine vx_catch (name := xISE) hown [] ⟨0, 8, 11, 15⟩ [] (htb.trans rfl) (fun z hz => by
        cases hz) (by decide) (by decide) (hts (.classLink RL 15 "java/lang/IllegalStateException") (List.mem_of_getElem? (i := 1) rfl)) (va_Nw.use rfl (hI.1.1.2.2.1 xISE (List.mem_of_getElem? (i := 1) rfl))) hce hcv hcl ?_
    refine lv_astore_n (lv' := [(2, .ref q9), (0, .ref (q 0)), (1, .ref (q 19))]) hx hb dL_addMirror_11 rfl hl (by decide) rfl (fun ls hl => ?_)
    refine lv_iconst (v := 1) hx hb dL_addMirror_12 (by decide) ?_
    exact end_w hx hb hr (by rw [hex]; decide) (by rw [hex]; rfl) (by rw [hex]; rfl) hI (by rw [if_neg (by rw [hex]; exact Option.some_ne_none _)]) hS dL_addMirror_13 hlk
theorem ran_update {x : Int32} {nm : Nat} {E : String} (h : exR x nm xIOB = some E) : E = xIOB := by
  revert h
  unfold exR
  repeat' split
  all_goals (intro h; first | (cases h; done) | (injection h with h; subst h; simp))
set_option maxHeartbeats 4000000 in
set_option maxRecDepth 100000 in
theorem c_L_update (l : Launch) (hst : l.stackTraces = false) (D : va_G) (cy : Nat → ClassId) (h0 : Nat) (q : Nat → Nat) (A : Nat → Nat → Int32) (S : Nat → Int32) (f : Nat → Int64) (g : Nat → UInt64) (x : Int32) (nb : Nat) (hnb : nb ≤ 24) (hcb : S 5 = nI nb) (nm : Nat) (hnm : nm ≤ 3) (hcm : S 6 = nI nm) : Met l yL_update wsL_update (rmX (exR x nm xIOB) 8 124) (va_Pc [.ref (q 0), .int x, .ref (q 19)] (pI D cy h0 (wO cy q A S f g))) (rwI (cd [xIOB] (exR x nm xIOB)) D cy h0 (if exR x nm xIOB = none then wO cy q (upA A S x nb) S (vp_updL f 0 ((S 5).toInt64)) g else wO cy q A S f g) (qA 21 q)) (c1 (exR x nm xIOB)) (c6 (exR x nm xIOB)) (qA 21 q) := by
  refine va_MetW (cc := cL_update) (maxL := 4) (ret := some .int) (by decide) rfl ?_
  intro p e s m args below meth c s₁ B hml hv
  obtain ⟨rfl, hI⟩ := hv
  have hx := B.exec
  have hb := B.bytes
  have hr := B.returns
  have hts := atoms_spec (ws := wsL_update) B.pre
  have hown : s.vm.findClass RL = some m.cls := findClass_of_methodNamed B.named
  have hlk := B.notSynchronized
  have htb := vx_table (x := yL_update) B (hts _ List.mem_cons_self)
  have hI : IH D cy h0 (wO cy q A S f g) s s.heap := hI
  have hqA := hA_O hI
  have hh0 : h0 ≤ s.heap.size := hI.1.2.2.2
  have hS : va_S (qA 21 q) s.heap s.heap [] := va_S.rf
  have hl := lv_entry ([.ref (q 0), .int x, .ref (q 19)]) (n := 4) (Nat.le_of_ble_eq_true rfl)
  rw [lg_entry_eq]
  generalize (lg_sl ([.ref (q 0), .int x, .ref (q 19)]) ++ List.replicate (4 - (lg_sl ([.ref (q 0), .int x, .ref (q 19)])).length) Slot.unset).toArray = ls at hl ⊢
  have hl : lv_has ls 4 [(0, .ref (q 0)), (1, .int x), (2, .ref (q 19))] := hl
  refine lv_aload_n hx hb dL_update_0 rfl (lv_at hl 2 rfl) ?_
  refine lv_iconst (v := 0) hx hb dL_update_1 (by decide) ?_
  refine lv_aload_n hx hb dL_update_2 rfl (lv_at hl 0 rfl) ?_
  refine lv_iload_n hx hb dL_update_3 rfl (lv_at hl 1 rfl) ?_
  refine wc_w_i (w1' := wX cy q (upA A S x nb) S) (vx_runV (As := [.int x]) (rest := [.int 0, .ref (q 19)]) ⟨hx, hb, hml, hown, hts⟩ (c_X3_update l hst D cy h0 q A S x nb hnb hcb nm hnm hcm) (cwV 1 hts gL_update_X3_update rfl rfl rfl (by decide +kernel) ⟨Nat.le_of_ble_eq_true rfl, Nat.le_of_ble_eq_true rfl⟩) ((IH.left hI).preV (k0 := 0) rfl rfl) rfl rfl hl.1 rfl (lv_room (Nat.le_of_ble_eq_true rfl)) dL_update_4 ⟨Nat.le_of_eq (Nat.zero_add _), Nat.le_of_eq (Nat.zero_add _)⟩) hI hS q19 rfl in_X (fun hex H locs hI hS => ?_) (fun E hex ce q9 H locs hI hS hce hcv hcl => ?_)
  · have hI : IH D cy h0 (wO cy q (upA A S x nb) S f g) s H := hI
    refine lv_i2l hx hb dL_update_7 rfl ?_
    refine r_last (w' := wO cy q (upA A S x nb) S (vp_updL f 0 ((S 5).toInt64)) g) (q0 := 19) hx hb hI hS hqA hh0 (qA_O hI) rfl rfl dL_update_8 rfl (fun H locs hI hS => ?_)
    refine lv_goto (tgt := 15) hx hb dL_update_9 (by decide) ?_
    refine lv_iconst (v := 0) hx hb dL_update_15 (by decide) ?_
    exact end_w hx hb hr (by rw [hex]; rfl) (by rw [hex]; rfl) (by rw [hex]; rfl) hI (by rw [if_pos hex]) hS dL_update_16 hlk
  · have hI : IH D cy h0 (wO cy q A S f g) s H := hI
    obtain rfl := ran_update hex
    refine vx_catch (name := xIOB) hown [] ⟨0, 9, 12, 21⟩ [] (htb.trans rfl) (fun z hz => by
        cases hz) (by decide) (by decide) (hts (.classLink RL 21 "java/lang/IndexOutOfBoundsException") (List.mem_of_getElem? (i := 1) rfl)) (va_Nw.use rfl (hI.1.1.2.2.1 xIOB (List.mem_of_getElem? (i := 2) rfl))) hce hcv hcl ?_
    refine lv_astore_n (lv' := [(3, .ref q9), (0, .ref (q 0)), (1, .int x), (2, .ref (q 19))]) hx hb dL_update_12 rfl hl (by decide) rfl (fun ls hl => ?_)
    refine lv_iconst (v := 1) hx hb dL_update_13 (by decide) ?_
    exact end_w hx hb hr (by rw [hex]; decide) (by rw [hex]; rfl) (by rw [hex]; rfl) hI (by rw [if_neg (by rw [hex]; exact Option.some_ne_none _)]) hS dL_update_14 hlk
theorem ran_isExpired {x : Int32} {nm : Nat} {E : String} (h : exR x nm xIOB = some E) : E = xIOB := by
  revert h
  unfold exR
  repeat' split
  all_goals (intro h; first | (cases h; done) | (injection h with h; subst h; simp))
set_option maxHeartbeats 4000000 in
set_option maxRecDepth 100000 in
theorem c_L_isExpired (l : Launch) (hst : l.stackTraces = false) (D : va_G) (cy : Nat → ClassId) (h0 : Nat) (q : Nat → Nat) (A : Nat → Nat → Int32) (S : Nat → Int32) (f : Nat → Int64) (g : Nat → UInt64) (x : Int32) (nm : Nat) (hnm : nm ≤ 3) (hcm : S 6 = nI nm) : Met l yL_isExpired wsL_isExpired (rmX (exR x nm xIOB) 8 124) (va_Pc [.ref (q 0), .int x, .ref (q 19)] (pI D cy h0 (wO cy q A S f g))) (rwI (cd [xIOB] (exR x nm xIOB)) D cy h0 (if exR x nm xIOB = none then wO cy q A S (vp_updL f 0 ((bI (expB A S (ix x))).toInt64)) g else wO cy q A S f g) (qA 21 q)) (c1 (exR x nm xIOB)) (c6 (exR x nm xIOB)) (qA 21 q) := by
  refine va_MetW (cc := cL_isExpired) (maxL := 4) (ret := some .int) (by decide) rfl ?_
  intro p e s m args below meth c s₁ B hml hv
  obtain ⟨rfl, hI⟩ := hv
  have hx := B.exec
  have hb := B.bytes
  have hr := B.returns
  have hts := atoms_spec (ws := wsL_isExpired) B.pre
  have hown : s.vm.findClass RL = some m.cls := findClass_of_methodNamed B.named
  have hlk := B.notSynchronized
  have htb := vx_table (x := yL_isExpired) B (hts _ List.mem_cons_self)
  have hI : IH D cy h0 (wO cy q A S f g) s s.heap := hI
  have hqA := hA_O hI
  have hh0 : h0 ≤ s.heap.size := hI.1.2.2.2
  have hS : va_S (qA 21 q) s.heap s.heap [] := va_S.rf
  have hl := lv_entry ([.ref (q 0), .int x, .ref (q 19)]) (n := 4) (Nat.le_of_ble_eq_true rfl)
  rw [lg_entry_eq]
  generalize (lg_sl ([.ref (q 0), .int x, .ref (q 19)]) ++ List.replicate (4 - (lg_sl ([.ref (q 0), .int x, .ref (q 19)])).length) Slot.unset).toArray = ls at hl ⊢
  have hl : lv_has ls 4 [(0, .ref (q 0)), (1, .int x), (2, .ref (q 19))] := hl
  refine lv_aload_n hx hb dL_isExpired_0 rfl (lv_at hl 2 rfl) ?_
  refine lv_iconst (v := 0) hx hb dL_isExpired_1 (by decide) ?_
  refine lv_aload_n hx hb dL_isExpired_2 rfl (lv_at hl 0 rfl) ?_
  refine lv_iload_n hx hb dL_isExpired_3 rfl (lv_at hl 1 rfl) ?_
  refine wc_o_i (vx_runV (As := [.int x]) (rest := [.int 0, .ref (q 19)]) ⟨hx, hb, hml, hown, hts⟩ (c_X3_isExpired l hst D cy h0 q A S x nm hnm hcm) (cwV 1 hts gL_isExpired_X3_isExpired rfl rfl rfl (by decide +kernel) ⟨Nat.le_of_ble_eq_true rfl, Nat.le_of_ble_eq_true rfl⟩) ((IH.left hI).preV (k0 := 0) rfl rfl) rfl rfl hl.1 rfl (lv_room (Nat.le_of_ble_eq_true rfl)) dL_isExpired_4 ⟨Nat.le_of_eq (Nat.zero_add _), Nat.le_of_eq (Nat.zero_add _)⟩) hI hS (fun hex H locs hI hS => ?_) (fun E hex ce q9 H locs hI hS hce hcv hcl => ?_)
  · have hI : IH D cy h0 (wO cy q A S f g) s H := hI
    refine r_ifeq_b (tgt := 14) hx hb dL_isExpired_7 (by decide) (fun hB => ?_) (fun hB => ?_)
    · refine lv_lconst (v := 0) hx hb dL_isExpired_14 (by decide) ?_
      refine r_last (w' := wO cy q A S (vp_updL f 0 (0)) g) (q0 := 19) hx hb hI hS hqA hh0 (qA_O hI) rfl rfl dL_isExpired_15 rfl (fun H locs hI hS => ?_)
      refine lv_goto (tgt := 22) hx hb dL_isExpired_16 (by decide) ?_
      refine lv_iconst (v := 0) hx hb dL_isExpired_22 (by decide) ?_
      exact end_w hx hb hr (by rw [hex]; rfl) (by rw [hex]; rfl) (by rw [hex]; rfl) hI (by rw [if_pos hex, hB]; rfl) hS dL_isExpired_23 hlk
    · refine lv_lconst (v := 1) hx hb dL_isExpired_10 (by decide) ?_
      refine lv_goto (tgt := 15) hx hb dL_isExpired_11 (by decide) ?_
      refine r_last (w' := wO cy q A S (vp_updL f 0 (1)) g) (q0 := 19) hx hb hI hS hqA hh0 (qA_O hI) rfl rfl dL_isExpired_15 rfl (fun H locs hI hS => ?_)
      refine lv_goto (tgt := 22) hx hb dL_isExpired_16 (by decide) ?_
      refine lv_iconst (v := 0) hx hb dL_isExpired_22 (by decide) ?_
      exact end_w hx hb hr (by rw [hex]; rfl) (by rw [hex]; rfl) (by rw [hex]; rfl) hI (by rw [if_pos hex, hB]; rfl) hS dL_isExpired_23 hlk
  · have hI : IH D cy h0 (wO cy q A S f g) s H := hI
    obtain rfl := ran_isExpired hex
    refine vx_catch (name := xIOB) hown [] ⟨0, 16, 19, 21⟩ [] (htb.trans rfl) (fun z hz => by
        cases hz) (by decide) (by decide) (hts (.classLink RL 21 "java/lang/IndexOutOfBoundsException") (List.mem_of_getElem? (i := 1) rfl)) (va_Nw.use rfl (hI.1.1.2.2.1 xIOB (List.mem_of_getElem? (i := 2) rfl))) hce hcv hcl ?_
    refine lv_astore_n (lv' := [(3, .ref q9), (0, .ref (q 0)), (1, .int x), (2, .ref (q 19))]) hx hb dL_isExpired_19 rfl hl (by decide) rfl (fun ls hl => ?_)
    refine lv_iconst (v := 1) hx hb dL_isExpired_20 (by decide) ?_
    exact end_w hx hb hr (by rw [hex]; decide) (by rw [hex]; rfl) (by rw [hex]; rfl) hI (by rw [if_neg (by rw [hex]; exact Option.some_ne_none _)]) hS dL_isExpired_21 hlk
theorem ran_setExpiry {d : Int32} {E : String} (h : exSetExpiry d = some E) : E = xIAE := by
  revert h
  unfold exSetExpiry
  repeat' split
  all_goals (intro h; first | (cases h; done) | (injection h with h; subst h; simp))
set_option maxHeartbeats 4000000 in
set_option maxRecDepth 100000 in
theorem c_L_setExpiry (l : Launch) (hst : l.stackTraces = false) (D : va_G) (cy : Nat → ClassId) (h0 : Nat) (q : Nat → Nat) (A : Nat → Nat → Int32) (S : Nat → Int32) (f : Nat → Int64) (g : Nat → UInt64) (d : Int32) : Met l yL_setExpiry wsL_setExpiry (rmX (exSetExpiry d) 7 104) (va_Pc [.ref (q 0), .int d, .ref (q 19)] (pI D cy h0 (wO cy q A S f g))) (rwI (cd [xIAE] (exSetExpiry d)) D cy h0 (if exSetExpiry d = none then wO cy q A (uS S 0 d) (vp_updL f 0 ((S 0).toInt64)) g else wO cy q A S f g) (qA 21 q)) (c1 (exSetExpiry d)) (c6 (exSetExpiry d)) (qA 21 q) := by
  refine va_MetW (cc := cL_setExpiry) (maxL := 4) (ret := some .int) (by decide) rfl ?_
  intro p e s m args below meth c s₁ B hml hv
  obtain ⟨rfl, hI⟩ := hv
  have hx := B.exec
  have hb := B.bytes
  have hr := B.returns
  have hts := atoms_spec (ws := wsL_setExpiry) B.pre
  have hown : s.vm.findClass RL = some m.cls := findClass_of_methodNamed B.named
  have hlk := B.notSynchronized
  have htb := vx_table (x := yL_setExpiry) B (hts _ List.mem_cons_self)
  have hI : IH D cy h0 (wO cy q A S f g) s s.heap := hI
  have hqA := hA_O hI
  have hh0 : h0 ≤ s.heap.size := hI.1.2.2.2
  have hS : va_S (qA 21 q) s.heap s.heap [] := va_S.rf
  have hl := lv_entry ([.ref (q 0), .int d, .ref (q 19)]) (n := 4) (Nat.le_of_ble_eq_true rfl)
  rw [lg_entry_eq]
  generalize (lg_sl ([.ref (q 0), .int d, .ref (q 19)]) ++ List.replicate (4 - (lg_sl ([.ref (q 0), .int d, .ref (q 19)])).length) Slot.unset).toArray = ls at hl ⊢
  have hl : lv_has ls 4 [(0, .ref (q 0)), (1, .int d), (2, .ref (q 19))] := hl
  refine lv_aload_n hx hb dL_setExpiry_0 rfl (lv_at hl 2 rfl) ?_
  refine lv_iconst (v := 0) hx hb dL_setExpiry_1 (by decide) ?_
  refine lv_aload_n hx hb dL_setExpiry_2 rfl (lv_at hl 0 rfl) ?_
  refine lv_iload_n hx hb dL_setExpiry_3 rfl (lv_at hl 1 rfl) ?_
  refine wc_w_i (w1' := wX cy q A (uS S 0 d)) (vx_runV (As := [.int d]) (rest := [.int 0, .ref (q 19)]) ⟨hx, hb, hml, hown, hts⟩ (c_X3_setExpiry l hst D cy h0 q A S d ) (cwV 1 hts gL_setExpiry_X3_setExpiry rfl rfl rfl (by decide +kernel) ⟨Nat.le_of_ble_eq_true rfl, Nat.le_of_ble_eq_true rfl⟩) ((IH.left hI).preV (k0 := 0) rfl rfl) rfl rfl hl.1 rfl (lv_room (Nat.le_of_ble_eq_true rfl)) dL_setExpiry_4 ⟨Nat.le_of_eq (Nat.zero_add _), Nat.le_of_eq (Nat.zero_add _)⟩) hI hS q19 rfl in_X (fun hex H locs hI hS => ?_) (fun E hex ce q9 H locs hI hS hce hcv hcl => ?_)
  · have hI : IH D cy h0 (wO cy q A (uS S 0 d) f g) s H := hI
    refine lv_i2l hx hb dL_setExpiry_7 rfl ?_
    refine r_last (w' := wO cy q A (uS S 0 d) (vp_updL f 0 ((S 0).toInt64)) g) (q0 := 19) hx hb hI hS hqA hh0 (qA_O hI) rfl rfl dL_setExpiry_8 rfl (fun H locs hI hS => ?_)
    refine lv_goto (tgt := 15) hx hb dL_setExpiry_9 (by decide) ?_
    refine lv_iconst (v := 0) hx hb dL_setExpiry_15 (by decide) ?_
    exact end_w hx hb hr (by rw [hex]; rfl) (by rw [hex]; rfl) (by rw [hex]; rfl) hI (by rw [if_pos hex]) hS dL_setExpiry_16 hlk
  · have hI : IH D cy h0 (wO cy q A S f g) s H := hI
    obtain rfl := ran_setExpiry hex
    refine vx_catch (name := xIAE) hown [] ⟨0, 9, 12, 13⟩ [] (htb.trans rfl) (fun z hz => by
        cases hz) (by decide) (by decide) (hts (.classLink RL 13 "java/lang/IllegalArgumentException") (List.mem_of_getElem? (i := 1) rfl)) (va_Nw.use rfl (hI.1.1.2.2.1 xIAE (List.mem_of_getElem? (i := 0) rfl))) hce hcv hcl ?_
    refine lv_astore_n (lv' := [(3, .ref q9), (0, .ref (q 0)), (1, .int d), (2, .ref (q 19))]) hx hb dL_setExpiry_12 rfl hl (by decide) rfl (fun ls hl => ?_)
    refine lv_iconst (v := 1) hx hb dL_setExpiry_13 (by decide) ?_
    exact end_w hx hb hr (by rw [hex]; decide) (by rw [hex]; rfl) (by rw [hex]; rfl) hI (by rw [if_neg (by rw [hex]; exact Option.some_ne_none _)]) hS dL_setExpiry_14 hlk
theorem ran_install {A : Nat → Nat → Int32} {S : Nat → Int32} {x : Int32} {name : Int32} {nb : Nat} {nm : Nat} {E : String} (h : exInstall A S x name nb nm = some E) : E = xIOB ∨ E = xIAE ∨ E = xUOE ∨ E = xNSE := by
  revert h
  unfold exInstall exF
  repeat' split
  all_goals (intro h; first | (cases h; done) | (injection h with h; subst h; simp))
set_option maxHeartbeats 4000000 in
set_option maxRecDepth 100000 in
theorem c_L_install (l : Launch) (hst : l.stackTraces = false) (D : va_G) (cy : Nat → ClassId) (h0 : Nat) (q : Nat → Nat) (A : Nat → Nat → Int32) (S : Nat → Int32) (f : Nat → Int64) (g : Nat → UInt64) (x : Int32) (name : Int32) (nb : Nat) (hnb : nb ≤ 24) (hcb : S 5 = nI nb) (nm : Nat) (hnm : nm ≤ 3) (hcm : S 6 = nI nm) (htn : ∀ b, b < nb → ∃ t, t < 5 ∧ A 5 b = nI t) : Met l yL_install wsL_install (rmX (exInstall A S x name nb nm) 8 130) (va_Pc [.ref (q 0), .int x, .int name, .ref (q 19)] (pI D cy h0 (wO cy q A S f g))) (rwI (cd [xIOB, xIAE, xUOE, xNSE] (exInstall A S x name nb nm)) D cy h0 (if exInstall A S x name nb nm = none then wO cy q A S (vp_updL f 0 ((inX A x name nb).toInt64)) g else wO cy q A S f g) (qA 21 q)) (c1 (exInstall A S x name nb nm)) (c6 (exInstall A S x name nb nm)) (qA 21 q) := by
  refine va_MetW (cc := cL_install) (maxL := 5) (ret := some .int) (by decide) rfl ?_
  intro p e s m args below meth c s₁ B hml hv
  obtain ⟨rfl, hI⟩ := hv
  have hx := B.exec
  have hb := B.bytes
  have hr := B.returns
  have hts := atoms_spec (ws := wsL_install) B.pre
  have hown : s.vm.findClass RL = some m.cls := findClass_of_methodNamed B.named
  have hlk := B.notSynchronized
  have htb := vx_table (x := yL_install) B (hts _ List.mem_cons_self)
  have hI : IH D cy h0 (wO cy q A S f g) s s.heap := hI
  have hqA := hA_O hI
  have hh0 : h0 ≤ s.heap.size := hI.1.2.2.2
  have hS : va_S (qA 21 q) s.heap s.heap [] := va_S.rf
  have hl := lv_entry ([.ref (q 0), .int x, .int name, .ref (q 19)]) (n := 5) (Nat.le_of_ble_eq_true rfl)
  rw [lg_entry_eq]
  generalize (lg_sl ([.ref (q 0), .int x, .int name, .ref (q 19)]) ++ List.replicate (5 - (lg_sl ([.ref (q 0), .int x, .int name, .ref (q 19)])).length) Slot.unset).toArray = ls at hl ⊢
  have hl : lv_has ls 5 [(0, .ref (q 0)), (1, .int x), (2, .int name), (3, .ref (q 19))] := hl
  refine lv_aload_n hx hb dL_install_0 rfl (lv_at hl 3 rfl) ?_
  refine lv_iconst (v := 0) hx hb dL_install_1 (by decide) ?_
  refine lv_aload_n hx hb dL_install_2 rfl (lv_at hl 0 rfl) ?_
  refine lv_iload_n hx hb dL_install_3 rfl (lv_at hl 1 rfl) ?_
  refine lv_iload_n hx hb dL_install_4 rfl (lv_at hl 2 rfl) ?_
  refine wc_o_i (vx_runV (As := [.int x, .int name]) (rest := [.int 0, .ref (q 19)]) ⟨hx, hb, hml, hown, hts⟩ (c_X3_install l hst D cy h0 q A S x name nb hnb hcb nm hnm hcm htn) (cwV 2 hts gL_install_X3_install rfl rfl rfl (by decide +kernel) ⟨Nat.le_of_ble_eq_true rfl, Nat.le_of_ble_eq_true rfl⟩) ((IH.left hI).preV (k0 := 0) rfl rfl) rfl rfl hl.1 rfl (lv_room (Nat.le_of_ble_eq_true rfl)) dL_install_5 ⟨Nat.le_of_eq (Nat.zero_add _), Nat.le_of_eq (Nat.zero_add _)⟩) hI hS (fun hex H locs hI hS => ?_) (fun E hex ce q9 H locs hI hS hce hcv hcl => ?_)
  · have hI : IH D cy h0 (wO cy q A S f g) s H := hI
    refine lv_i2l hx hb dL_install_8 rfl ?_
    refine r_last (w' := wO cy q A S (vp_updL f 0 ((inX A x name nb).toInt64)) g) (q0 := 19) hx hb hI hS hqA hh0 (qA_O hI) rfl rfl dL_install_9 rfl (fun H locs hI hS => ?_)
    refine lv_goto (tgt := 29) hx hb dL_install_10 (by decide) ?_
    refine lv_iconst (v := 0) hx hb dL_install_29 (by decide) ?_
    exact end_w hx hb hr (by rw [hex]; rfl) (by rw [hex]; rfl) (by rw [hex]; rfl) hI (by rw [if_pos hex]) hS dL_install_30 hlk
  · have hI : IH D cy h0 (wO cy q A S f g) s H := hI
    rcases ran_install hex with rfl | rfl | rfl | rfl
    · refine vx_catch (name := xIOB) hown [] ⟨0, 10, 13, 21⟩ [⟨0, 10, 17, 13⟩, ⟨0, 10, 21, 40⟩, ⟨0, 10, 25, 58⟩] (htb.trans rfl) (fun z hz => by
          cases hz) (by decide) (by decide) (hts (.classLink RL 21 "java/lang/IndexOutOfBoundsException") (List.mem_of_getElem? (i := 1) rfl)) (va_Nw.use rfl (hI.1.1.2.2.1 xIOB (List.mem_of_getElem? (i := 2) rfl))) hce hcv hcl ?_
      refine lv_astore (lv' := [(4, .ref q9), (0, .ref (q 0)), (1, .int x), (2, .int name), (3, .ref (q 19))]) hx hb dL_install_13 hl (by decide) rfl (fun ls hl => ?_)
      refine lv_iconst (v := 1) hx hb dL_install_15 (by decide) ?_
      exact end_w hx hb hr (by rw [hex]; decide) (by rw [hex]; rfl) (by rw [hex]; rfl) hI (by rw [if_neg (by rw [hex]; exact Option.some_ne_none _)]) hS dL_install_16 hlk
    · refine vx_catch (name := xIAE) hown [⟨0, 10, 13, 21⟩] ⟨0, 10, 17, 13⟩ [⟨0, 10, 21, 40⟩, ⟨0, 10, 25, 58⟩] (htb.trans rfl) (fun z hz => by
          rcases List.mem_cons.mp hz with rfl | hz
          · exact Or.inr ⟨by decide, xIOB, (hts (.classLink RL 21 "java/lang/IndexOutOfBoundsException") (List.mem_of_getElem? (i := 1) rfl)), hI.1.1.2.2.2.2.1 (xIAE, xIOB) (List.mem_of_getElem? (i := 1) rfl)⟩
          cases hz) (by decide) (by decide) (hts (.classLink RL 13 "java/lang/IllegalArgumentException") (List.mem_of_getElem? (i := 2) rfl)) (va_Nw.use rfl (hI.1.1.2.2.1 xIAE (List.mem_of_getElem? (i := 0) rfl))) hce hcv hcl ?_
      refine lv_astore (lv' := [(4, .ref q9), (0, .ref (q 0)), (1, .int x), (2, .int name), (3, .ref (q 19))]) hx hb dL_install_17 hl (by decide) rfl (fun ls hl => ?_)
      refine lv_iconst (v := 2) hx hb dL_install_19 (by decide) ?_
      exact end_w hx hb hr (by rw [hex]; decide) (by rw [hex]; rfl) (by rw [hex]; rfl) hI (by rw [if_neg (by rw [hex]; exact Option.some_ne_none _)]) hS dL_install_20 hlk
    · refine vx_catch (name := xUOE) hown [⟨0, 10, 13, 21⟩, ⟨0, 10, 17, 13⟩] ⟨0, 10, 21, 40⟩ [⟨0, 10, 25, 58⟩] (htb.trans rfl) (fun z hz => by
          rcases List.mem_cons.mp hz with rfl | hz
          · exact Or.inr ⟨by decide, xIOB, (hts (.classLink RL 21 "java/lang/IndexOutOfBoundsException") (List.mem_of_getElem? (i := 1) rfl)), hI.1.1.2.2.2.2.1 (xUOE, xIOB) (List.mem_of_getElem? (i := 14) rfl)⟩
          rcases List.mem_cons.mp hz with rfl | hz
          · exact Or.inr ⟨by decide, xIAE, (hts (.classLink RL 13 "java/lang/IllegalArgumentException") (List.mem_of_getElem? (i := 2) rfl)), hI.1.1.2.2.2.2.1 (xUOE, xIAE) (List.mem_of_getElem? (i := 12) rfl)⟩
          cases hz) (by decide) (by decide) (hts (.classLink RL 40 "java/lang/UnsupportedOperationException") (List.mem_of_getElem? (i := 3) rfl)) (va_Nw.use rfl (hI.1.1.2.2.1 xUOE (List.mem_of_getElem? (i := 3) rfl))) hce hcv hcl ?_
      refine lv_astore (lv' := [(4, .ref q9), (0, .ref (q 0)), (1, .int x), (2, .int name), (3, .ref (q 19))]) hx hb dL_install_21 hl (by decide) rfl (fun ls hl => ?_)
      refine lv_iconst (v := 3) hx hb dL_install_23 (by decide) ?_
      exact end_w hx hb hr (by rw [hex]; decide) (by rw [hex]; rfl) (by rw [hex]; rfl) hI (by rw [if_neg (by rw [hex]; exact Option.some_ne_none _)]) hS dL_install_24 hlk
    · refine vx_catch (name := xNSE) hown [⟨0, 10, 13, 21⟩, ⟨0, 10, 17, 13⟩, ⟨0, 10, 21, 40⟩] ⟨0, 10, 25, 58⟩ [] (htb.trans rfl) (fun z hz => by
          rcases List.mem_cons.mp hz with rfl | hz
          · exact Or.inr ⟨by decide, xIOB, (hts (.classLink RL 21 "java/lang/IndexOutOfBoundsException") (List.mem_of_getElem? (i := 1) rfl)), hI.1.1.2.2.2.2.1 (xNSE, xIOB) (List.mem_of_getElem? (i := 18) rfl)⟩
          rcases List.mem_cons.mp hz with rfl | hz
          · exact Or.inr ⟨by decide, xIAE, (hts (.classLink RL 13 "java/lang/IllegalArgumentException") (List.mem_of_getElem? (i := 2) rfl)), hI.1.1.2.2.2.2.1 (xNSE, xIAE) (List.mem_of_getElem? (i := 16) rfl)⟩
          rcases List.mem_cons.mp hz with rfl | hz
          · exact Or.inr ⟨by decide, xUOE, (hts (.classLink RL 40 "java/lang/UnsupportedOperationException") (List.mem_of_getElem? (i := 3) rfl)), hI.1.1.2.2.2.2.1 (xNSE, xUOE) (List.mem_of_getElem? (i := 19) rfl)⟩
          cases hz) (by decide) (by decide) (hts (.classLink RL 58 "java/util/NoSuchElementException") (List.mem_of_getElem? (i := 4) rfl)) (va_Nw.use rfl (hI.1.1.2.2.1 xNSE (List.mem_of_getElem? (i := 4) rfl))) hce hcv hcl ?_
      refine lv_astore (lv' := [(4, .ref q9), (0, .ref (q 0)), (1, .int x), (2, .int name), (3, .ref (q 19))]) hx hb dL_install_25 hl (by decide) rfl (fun ls hl => ?_)
      refine lv_iconst (v := 4) hx hb dL_install_27 (by decide) ?_
      exact end_w hx hb hr (by rw [hex]; decide) (by rw [hex]; rfl) (by rw [hex]; rfl) hI (by rw [if_neg (by rw [hex]; exact Option.some_ne_none _)]) hS dL_install_28 hlk
theorem ran_pass {S : Nat → Int32} {d : Int32} {E : String} (h : exPass S d = some E) : E = xIAE := by
  revert h
  unfold exPass
  repeat' split
  all_goals (intro h; first | (cases h; done) | (injection h with h; subst h; simp))
set_option maxHeartbeats 4000000 in
set_option maxRecDepth 100000 in
theorem c_L_pass (l : Launch) (hst : l.stackTraces = false) (D : va_G) (cy : Nat → ClassId) (h0 : Nat) (q : Nat → Nat) (A : Nat → Nat → Int32) (S : Nat → Int32) (f : Nat → Int64) (g : Nat → UInt64) (d : Int32) (nk : Nat) (hnk : nk ≤ 8) (hck : S 3 = nI nk) (nb : Nat) (hnb : nb ≤ 24) (hcb : S 5 = nI nb) (htn : ∀ b, b < nb → ∃ t, t < 5 ∧ A 5 b = nI t) : Met l yL_pass wsL_pass (rmX (exPass S d) 7 132) (va_Pc [.ref (q 0), .int d, .ref (q 19)] (pI D cy h0 (wO cy q A S f g))) (rwI (cd [xIAE] (exPass S d)) D cy h0 (if exPass S d = none then wO cy q (psA A S d nk nb) (psS S d) (vp_updL f 0 ((bcF (tbF A nb &&& (tbF (psA A S d nk nb) nb ^^^ (-1)))).toInt64)) g else wO cy q A S f g) (qA 21 q)) (c1 (exPass S d)) (c6 (exPass S d)) (qA 21 q) := by
  refine va_MetW (cc := cL_pass) (maxL := 4) (ret := some .int) (by decide) rfl ?_
  intro p e s m args below meth c s₁ B hml hv
  obtain ⟨rfl, hI⟩ := hv
  have hx := B.exec
  have hb := B.bytes
  have hr := B.returns
  have hts := atoms_spec (ws := wsL_pass) B.pre
  have hown : s.vm.findClass RL = some m.cls := findClass_of_methodNamed B.named
  have hlk := B.notSynchronized
  have htb := vx_table (x := yL_pass) B (hts _ List.mem_cons_self)
  have hI : IH D cy h0 (wO cy q A S f g) s s.heap := hI
  have hqA := hA_O hI
  have hh0 : h0 ≤ s.heap.size := hI.1.2.2.2
  have hS : va_S (qA 21 q) s.heap s.heap [] := va_S.rf
  have hl := lv_entry ([.ref (q 0), .int d, .ref (q 19)]) (n := 4) (Nat.le_of_ble_eq_true rfl)
  rw [lg_entry_eq]
  generalize (lg_sl ([.ref (q 0), .int d, .ref (q 19)]) ++ List.replicate (4 - (lg_sl ([.ref (q 0), .int d, .ref (q 19)])).length) Slot.unset).toArray = ls at hl ⊢
  have hl : lv_has ls 4 [(0, .ref (q 0)), (1, .int d), (2, .ref (q 19))] := hl
  refine lv_aload_n hx hb dL_pass_0 rfl (lv_at hl 2 rfl) ?_
  refine lv_iconst (v := 0) hx hb dL_pass_1 (by decide) ?_
  refine lv_aload_n hx hb dL_pass_2 rfl (lv_at hl 0 rfl) ?_
  refine lv_iload_n hx hb dL_pass_3 rfl (lv_at hl 1 rfl) ?_
  refine wc_w_i (w1' := wX cy q (psA A S d nk nb) (psS S d)) (vx_runV (As := [.int d]) (rest := [.int 0, .ref (q 19)]) ⟨hx, hb, hml, hown, hts⟩ (c_X3_pass l hst D cy h0 q A S d nk hnk hck nb hnb hcb htn) (cwV 1 hts gL_pass_X3_pass rfl rfl rfl (by decide +kernel) ⟨Nat.le_of_ble_eq_true rfl, Nat.le_of_ble_eq_true rfl⟩) ((IH.left hI).preV (k0 := 0) rfl rfl) rfl rfl hl.1 rfl (lv_room (Nat.le_of_ble_eq_true rfl)) dL_pass_4 ⟨Nat.le_of_eq (Nat.zero_add _), Nat.le_of_eq (Nat.zero_add _)⟩) hI hS q19 rfl in_X (fun hex H locs hI hS => ?_) (fun E hex ce q9 H locs hI hS hce hcv hcl => ?_)
  · have hI : IH D cy h0 (wO cy q (psA A S d nk nb) (psS S d) f g) s H := hI
    refine lv_i2l hx hb dL_pass_7 rfl ?_
    refine r_last (w' := wO cy q (psA A S d nk nb) (psS S d) (vp_updL f 0 ((bcF (tbF A nb &&& (tbF (psA A S d nk nb) nb ^^^ (-1)))).toInt64)) g) (q0 := 19) hx hb hI hS hqA hh0 (qA_O hI) rfl rfl dL_pass_8 rfl (fun H locs hI hS => ?_)
    refine lv_goto (tgt := 15) hx hb dL_pass_9 (by decide) ?_
    refine lv_iconst (v := 0) hx hb dL_pass_15 (by decide) ?_
    exact end_w hx hb hr (by rw [hex]; rfl) (by rw [hex]; rfl) (by rw [hex]; rfl) hI (by rw [if_pos hex]) hS dL_pass_16 hlk
  · have hI : IH D cy h0 (wO cy q A S f g) s H := hI
    obtain rfl := ran_pass hex
    refine vx_catch (name := xIAE) hown [] ⟨0, 9, 12, 13⟩ [] (htb.trans rfl) (fun z hz => by
        cases hz) (by decide) (by decide) (hts (.classLink RL 13 "java/lang/IllegalArgumentException") (List.mem_of_getElem? (i := 1) rfl)) (va_Nw.use rfl (hI.1.1.2.2.1 xIAE (List.mem_of_getElem? (i := 0) rfl))) hce hcv hcl ?_
    refine lv_astore_n (lv' := [(3, .ref q9), (0, .ref (q 0)), (1, .int d), (2, .ref (q 19))]) hx hb dL_pass_12 rfl hl (by decide) rfl (fun ls hl => ?_)
    refine lv_iconst (v := 1) hx hb dL_pass_13 (by decide) ?_
    exact end_w hx hb hr (by rw [hex]; decide) (by rw [hex]; rfl) (by rw [hex]; rfl) hI (by rw [if_neg (by rw [hex]; exact Option.some_ne_none _)]) hS dL_pass_14 hlk
