/-! Rows over a world with the ambient facts (IH): calls, ends, throws, reads and writes. Written by wip/whole/gen/rows11.py. -/
section ROWS
variable {p : Program} {l : Launch} {e : Env} {R : Room} {s : State} {m : MethodId} {args : Array Value} {below : List Frame} {meth : Method} {c : Code} {H : Heap} {locs : List Loc} {cells slots : Nat} {Q : State → Prop}
variable {cc : ByteArray} {pc : Nat} {ls : Array Slot} {rest st0 : List Value} {D : va_G} {cy : Nat → ClassId} {h0 : Nat} {w w' : va_W} {A0 A1 : Nat → Prop} {H0 : Heap} {a : Array Value} {ex : Option String}
theorem ro_i {v : Int32} (hr : va_Run p l e R s m args below meth c H locs cells slots 0 0 (F0 m pc ls st0) rest (roI v a) nof) (hI : IH D cy h0 w s H) (hS : va_S A0 H0 H locs)
    (kk : ∀ (H1 : Heap) (locs1 : List Loc), IH D cy h0 w s H1 → va_S A0 H0 H1 locs1 → W p l e R s m args below meth c H1 locs1 cells slots Q (F0 m (pc + 3) ls (.int v :: rest))) : W p l e R s m args below meth c H locs cells slots Q (F0 m pc ls st0) :=
  va_calli hr hS (fun q _ h => h.elim) (fun q h => h.elim) (fun r u t H1 locs1 ht hvm hw hB hz1 hk1 hS1 => by
    subst hw
    exact kk H1 locs1 (hI.keep hz1 (fun q hq => hk1 q hq (fun h => h))) hS1)
theorem rw_i {v : Int32} (hr : va_Run p l e R s m args below meth c H locs cells slots 0 0 (F0 m pc ls st0) rest (rwI v D cy h0 w' A1 a) A1) (hI : IH D cy h0 w s H) (hS : va_S A0 H0 H locs) (hA : ∀ q, A1 q → A0 q) (hh : ∀ q, A1 q → h0 ≤ q)
    (kk : ∀ (H1 : Heap) (locs1 : List Loc), IH D cy h0 w' s H1 → va_S A0 H0 H1 locs1 → W p l e R s m args below meth c H1 locs1 cells slots Q (F0 m (pc + 3) ls (.int v :: rest))) : W p l e R s m args below meth c H locs cells slots Q (F0 m pc ls st0) :=
  va_calli hr hS (fun q _ h => hA q h) hA (fun r u t H1 locs1 ht hvm hw hB hz1 hk1 hS1 => by
    subst hw
    have hB' : IH D cy h0 w' t t.heap := hB
    rw [ht] at hB'
    exact kk H1 locs1 ⟨hI.1.keep hz1 (fun q hq => hk1 q (Nat.lt_of_lt_of_le hq hI.1.2.2.2) (fun h => absurd (hh q h) (Nat.not_le.mpr hq))), hB'.2⟩ hS1)
theorem xo_i {v : Int32} (hex : ex = none) (hr : vx_Run p l e R s m args below meth c H locs cells slots (c1 ex) (c6 ex) (F0 m pc ls st0) rest (xoI ex v a) (xx ex) nof) (hI : IH D cy h0 w s H) (hS : va_S A0 H0 H locs)
    (kk : ∀ (H1 : Heap) (locs1 : List Loc), IH D cy h0 w s H1 → va_S A0 H0 H1 locs1 → W p l e R s m args below meth c H1 locs1 cells slots Q (F0 m (pc + 3) ls (.int v :: rest))) : W p l e R s m args below meth c H locs cells slots Q (F0 m pc ls st0) := by
  subst hex
  exact vx_calli hr hS (fun q _ h => h.elim) (fun q h => h.elim) (fun q _ h => h.elim) (fun E ce q9 u t H1 locs1 ht hvm _ hB => by cases hB) (fun r u t H1 locs1 ht hvm hw hB hz1 hk1 hS1 => by
    obtain ⟨-, rfl⟩ := hw
    exact kk H1 locs1 (hI.keep hz1 (fun q hq => hk1 q hq (fun h => h))) hS1)
theorem xb_i {v : Int32} {E : String} (hex : ex = some E) (hr : vx_Run p l e R s m args below meth c H locs cells slots (c1 ex) (c6 ex) (F0 m pc ls st0) rest (xoI ex v a) (xx ex) nof) (hI : IH D cy h0 w s H) (hS : va_S A0 H0 H locs)
    (kx : ∀ (ce : Cell) (q9 : Nat) (H1 : Heap) (locs1 : List Loc), IH D cy h0 w s H1 → va_S A0 H0 H1 locs1 → H1[q9]? = some ce → ce.vm = .none → s.vm.findClass E = some ce.cls → vx_W p l e R s m args below meth c H1 locs1 (cells + 1) (slots + 6) Q (F0 m pc ls rest) q9) : W p l e R s m args below meth c H locs cells slots Q (F0 m pc ls st0) := by
  subst hex
  exact vx_calli hr hS (fun q _ h => h.elim) (fun q h => h.elim) (fun q _ h => h.elim) (fun E1 ce q9 u t H1 locs1 ht hvm _ hB hz1 hk1 hS1 h1 h2 h3 => by
    cases hB
    exact kx ce q9 H1 locs1 (hI.keep hz1 (fun q hq => hk1 q hq (fun h => h))) hS1 h1 h2 h3) (fun r u t H1 locs1 ht hvm hw hB hz1 hk1 hS1 => by cases hw.1)
theorem xow_i {v : Int32} (hex : ex = none) (hr : vx_Run p l e R s m args below meth c H locs cells slots (c1 ex) (c6 ex) (F0 m pc ls st0) rest (xwI ex v D cy h0 w' A1 a) (xx ex) A1) (hI : IH D cy h0 w s H) (hS : va_S A0 H0 H locs) (hA : ∀ q, A1 q → A0 q) (hh : ∀ q, A1 q → h0 ≤ q)
    (kk : ∀ (H1 : Heap) (locs1 : List Loc), IH D cy h0 w' s H1 → va_S A0 H0 H1 locs1 → W p l e R s m args below meth c H1 locs1 cells slots Q (F0 m (pc + 3) ls (.int v :: rest))) : W p l e R s m args below meth c H locs cells slots Q (F0 m pc ls st0) := by
  subst hex
  exact vx_calli hr hS (fun q _ h => hA q h) hA (fun q _ h => h.elim) (fun E ce q9 u t H1 locs1 ht hvm _ hB => by cases hB) (fun r u t H1 locs1 ht hvm hw hB hz1 hk1 hS1 => by
    obtain ⟨-, rfl⟩ := hw
    have hB' : IH D cy h0 w' t t.heap := hB
    rw [ht] at hB'
    exact kk H1 locs1 ⟨hI.1.keep hz1 (fun q hq => hk1 q (Nat.lt_of_lt_of_le hq hI.1.2.2.2) (fun h => absurd (hh q h) (Nat.not_le.mpr hq))), hB'.2⟩ hS1)
theorem xbw_i {v : Int32} {E : String} (hex : ex = some E) (hr : vx_Run p l e R s m args below meth c H locs cells slots (c1 ex) (c6 ex) (F0 m pc ls st0) rest (xwI ex v D cy h0 w' A1 a) (xx ex) A1) (hI : IH D cy h0 w s H) (hS : va_S A0 H0 H locs) (hA : ∀ q, A1 q → A0 q)
    (kx : ∀ (ce : Cell) (q9 : Nat) (H1 : Heap) (locs1 : List Loc), IH D cy h0 w s H1 → va_S A0 H0 H1 locs1 → H1[q9]? = some ce → ce.vm = .none → s.vm.findClass E = some ce.cls → vx_W p l e R s m args below meth c H1 locs1 (cells + 1) (slots + 6) Q (F0 m pc ls rest) q9) : W p l e R s m args below meth c H locs cells slots Q (F0 m pc ls st0) := by
  subst hex
  exact vx_calli hr hS (fun q _ h => hA q h) hA (fun q _ h => h.elim) (fun E1 ce q9 u t H1 locs1 ht hvm _ hB hz1 hk1 hS1 h1 h2 h3 => by
    cases hB
    exact kx ce q9 H1 locs1 (hI.keep hz1 (fun q hq => hk1 q hq (fun h => h))) hS1 h1 h2 h3) (fun r u t H1 locs1 ht hvm hw hB hz1 hk1 hS1 => by cases hw.1)
theorem ro_l {v : Int64} (hr : va_Run p l e R s m args below meth c H locs cells slots 0 0 (F0 m pc ls st0) rest (roL v a) nof) (hI : IH D cy h0 w s H) (hS : va_S A0 H0 H locs)
    (kk : ∀ (H1 : Heap) (locs1 : List Loc), IH D cy h0 w s H1 → va_S A0 H0 H1 locs1 → W p l e R s m args below meth c H1 locs1 cells slots Q (F0 m (pc + 3) ls (.long v :: rest))) : W p l e R s m args below meth c H locs cells slots Q (F0 m pc ls st0) :=
  va_calll hr hS (fun q _ h => h.elim) (fun q h => h.elim) (fun r u t H1 locs1 ht hvm hw hB hz1 hk1 hS1 => by
    subst hw
    exact kk H1 locs1 (hI.keep hz1 (fun q hq => hk1 q hq (fun h => h))) hS1)
theorem rw_l {v : Int64} (hr : va_Run p l e R s m args below meth c H locs cells slots 0 0 (F0 m pc ls st0) rest (rwL v D cy h0 w' A1 a) A1) (hI : IH D cy h0 w s H) (hS : va_S A0 H0 H locs) (hA : ∀ q, A1 q → A0 q) (hh : ∀ q, A1 q → h0 ≤ q)
    (kk : ∀ (H1 : Heap) (locs1 : List Loc), IH D cy h0 w' s H1 → va_S A0 H0 H1 locs1 → W p l e R s m args below meth c H1 locs1 cells slots Q (F0 m (pc + 3) ls (.long v :: rest))) : W p l e R s m args below meth c H locs cells slots Q (F0 m pc ls st0) :=
  va_calll hr hS (fun q _ h => hA q h) hA (fun r u t H1 locs1 ht hvm hw hB hz1 hk1 hS1 => by
    subst hw
    have hB' : IH D cy h0 w' t t.heap := hB
    rw [ht] at hB'
    exact kk H1 locs1 ⟨hI.1.keep hz1 (fun q hq => hk1 q (Nat.lt_of_lt_of_le hq hI.1.2.2.2) (fun h => absurd (hh q h) (Nat.not_le.mpr hq))), hB'.2⟩ hS1)
theorem ro_f {v : UInt32} (hr : va_Run p l e R s m args below meth c H locs cells slots 0 0 (F0 m pc ls st0) rest (roF v a) nof) (hI : IH D cy h0 w s H) (hS : va_S A0 H0 H locs)
    (kk : ∀ (H1 : Heap) (locs1 : List Loc), IH D cy h0 w s H1 → va_S A0 H0 H1 locs1 → W p l e R s m args below meth c H1 locs1 cells slots Q (F0 m (pc + 3) ls (.float v :: rest))) : W p l e R s m args below meth c H locs cells slots Q (F0 m pc ls st0) :=
  va_callf hr hS (fun q _ h => h.elim) (fun q h => h.elim) (fun r u t H1 locs1 ht hvm hw hB hz1 hk1 hS1 => by
    subst hw
    exact kk H1 locs1 (hI.keep hz1 (fun q hq => hk1 q hq (fun h => h))) hS1)
theorem rw_f {v : UInt32} (hr : va_Run p l e R s m args below meth c H locs cells slots 0 0 (F0 m pc ls st0) rest (rwF v D cy h0 w' A1 a) A1) (hI : IH D cy h0 w s H) (hS : va_S A0 H0 H locs) (hA : ∀ q, A1 q → A0 q) (hh : ∀ q, A1 q → h0 ≤ q)
    (kk : ∀ (H1 : Heap) (locs1 : List Loc), IH D cy h0 w' s H1 → va_S A0 H0 H1 locs1 → W p l e R s m args below meth c H1 locs1 cells slots Q (F0 m (pc + 3) ls (.float v :: rest))) : W p l e R s m args below meth c H locs cells slots Q (F0 m pc ls st0) :=
  va_callf hr hS (fun q _ h => hA q h) hA (fun r u t H1 locs1 ht hvm hw hB hz1 hk1 hS1 => by
    subst hw
    have hB' : IH D cy h0 w' t t.heap := hB
    rw [ht] at hB'
    exact kk H1 locs1 ⟨hI.1.keep hz1 (fun q hq => hk1 q (Nat.lt_of_lt_of_le hq hI.1.2.2.2) (fun h => absurd (hh q h) (Nat.not_le.mpr hq))), hB'.2⟩ hS1)
theorem xo_f {v : UInt32} (hex : ex = none) (hr : vx_Run p l e R s m args below meth c H locs cells slots (c1 ex) (c6 ex) (F0 m pc ls st0) rest (xoF ex v a) (xx ex) nof) (hI : IH D cy h0 w s H) (hS : va_S A0 H0 H locs)
    (kk : ∀ (H1 : Heap) (locs1 : List Loc), IH D cy h0 w s H1 → va_S A0 H0 H1 locs1 → W p l e R s m args below meth c H1 locs1 cells slots Q (F0 m (pc + 3) ls (.float v :: rest))) : W p l e R s m args below meth c H locs cells slots Q (F0 m pc ls st0) := by
  subst hex
  exact vx_callf hr hS (fun q _ h => h.elim) (fun q h => h.elim) (fun q _ h => h.elim) (fun E ce q9 u t H1 locs1 ht hvm _ hB => by cases hB) (fun r u t H1 locs1 ht hvm hw hB hz1 hk1 hS1 => by
    obtain ⟨-, rfl⟩ := hw
    exact kk H1 locs1 (hI.keep hz1 (fun q hq => hk1 q hq (fun h => h))) hS1)
theorem xb_f {v : UInt32} {E : String} (hex : ex = some E) (hr : vx_Run p l e R s m args below meth c H locs cells slots (c1 ex) (c6 ex) (F0 m pc ls st0) rest (xoF ex v a) (xx ex) nof) (hI : IH D cy h0 w s H) (hS : va_S A0 H0 H locs)
    (kx : ∀ (ce : Cell) (q9 : Nat) (H1 : Heap) (locs1 : List Loc), IH D cy h0 w s H1 → va_S A0 H0 H1 locs1 → H1[q9]? = some ce → ce.vm = .none → s.vm.findClass E = some ce.cls → vx_W p l e R s m args below meth c H1 locs1 (cells + 1) (slots + 6) Q (F0 m pc ls rest) q9) : W p l e R s m args below meth c H locs cells slots Q (F0 m pc ls st0) := by
  subst hex
  exact vx_callf hr hS (fun q _ h => h.elim) (fun q h => h.elim) (fun q _ h => h.elim) (fun E1 ce q9 u t H1 locs1 ht hvm _ hB hz1 hk1 hS1 h1 h2 h3 => by
    cases hB
    exact kx ce q9 H1 locs1 (hI.keep hz1 (fun q hq => hk1 q hq (fun h => h))) hS1 h1 h2 h3) (fun r u t H1 locs1 ht hvm hw hB hz1 hk1 hS1 => by cases hw.1)
theorem ro_v (hr : va_Run p l e R s m args below meth c H locs cells slots 0 0 (F0 m pc ls st0) rest (roV a) nof) (hI : IH D cy h0 w s H) (hS : va_S A0 H0 H locs)
    (kk : ∀ (H1 : Heap) (locs1 : List Loc), IH D cy h0 w s H1 → va_S A0 H0 H1 locs1 → W p l e R s m args below meth c H1 locs1 cells slots Q (F0 m (pc + 3) ls (rest))) : W p l e R s m args below meth c H locs cells slots Q (F0 m pc ls st0) :=
  va_callv hr hS (fun q _ h => h.elim) (fun q h => h.elim) (fun u t H1 locs1 ht hvm hw hB hz1 hk1 hS1 => by
    exact kk H1 locs1 (hI.keep hz1 (fun q hq => hk1 q hq (fun h => h))) hS1)
theorem rw_v (hr : va_Run p l e R s m args below meth c H locs cells slots 0 0 (F0 m pc ls st0) rest (rwV D cy h0 w' A1 a) A1) (hI : IH D cy h0 w s H) (hS : va_S A0 H0 H locs) (hA : ∀ q, A1 q → A0 q) (hh : ∀ q, A1 q → h0 ≤ q)
    (kk : ∀ (H1 : Heap) (locs1 : List Loc), IH D cy h0 w' s H1 → va_S A0 H0 H1 locs1 → W p l e R s m args below meth c H1 locs1 cells slots Q (F0 m (pc + 3) ls (rest))) : W p l e R s m args below meth c H locs cells slots Q (F0 m pc ls st0) :=
  va_callv hr hS (fun q _ h => hA q h) hA (fun u t H1 locs1 ht hvm hw hB hz1 hk1 hS1 => by
    have hB' : IH D cy h0 w' t t.heap := hB
    rw [ht] at hB'
    exact kk H1 locs1 ⟨hI.1.keep hz1 (fun q hq => hk1 q (Nat.lt_of_lt_of_le hq hI.1.2.2.2) (fun h => absurd (hh q h) (Nat.not_le.mpr hq))), hB'.2⟩ hS1)
theorem xo_v (hex : ex = none) (hr : vx_Run p l e R s m args below meth c H locs cells slots (c1 ex) (c6 ex) (F0 m pc ls st0) rest (xoV ex a) (xx ex) nof) (hI : IH D cy h0 w s H) (hS : va_S A0 H0 H locs)
    (kk : ∀ (H1 : Heap) (locs1 : List Loc), IH D cy h0 w s H1 → va_S A0 H0 H1 locs1 → W p l e R s m args below meth c H1 locs1 cells slots Q (F0 m (pc + 3) ls (rest))) : W p l e R s m args below meth c H locs cells slots Q (F0 m pc ls st0) := by
  subst hex
  exact vx_callv hr hS (fun q _ h => h.elim) (fun q h => h.elim) (fun q _ h => h.elim) (fun E ce q9 u t H1 locs1 ht hvm _ hB => by cases hB) (fun u t H1 locs1 ht hvm hw hB hz1 hk1 hS1 => by
    exact kk H1 locs1 (hI.keep hz1 (fun q hq => hk1 q hq (fun h => h))) hS1)
theorem xb_v {E : String} (hex : ex = some E) (hr : vx_Run p l e R s m args below meth c H locs cells slots (c1 ex) (c6 ex) (F0 m pc ls st0) rest (xoV ex a) (xx ex) nof) (hI : IH D cy h0 w s H) (hS : va_S A0 H0 H locs)
    (kx : ∀ (ce : Cell) (q9 : Nat) (H1 : Heap) (locs1 : List Loc), IH D cy h0 w s H1 → va_S A0 H0 H1 locs1 → H1[q9]? = some ce → ce.vm = .none → s.vm.findClass E = some ce.cls → vx_W p l e R s m args below meth c H1 locs1 (cells + 1) (slots + 6) Q (F0 m pc ls rest) q9) : W p l e R s m args below meth c H locs cells slots Q (F0 m pc ls st0) := by
  subst hex
  exact vx_callv hr hS (fun q _ h => h.elim) (fun q h => h.elim) (fun q _ h => h.elim) (fun E1 ce q9 u t H1 locs1 ht hvm _ hB hz1 hk1 hS1 h1 h2 h3 => by
    cases hB
    exact kx ce q9 H1 locs1 (hI.keep hz1 (fun q hq => hk1 q hq (fun h => h))) hS1 h1 h2 h3) (fun u t H1 locs1 ht hvm hw hB hz1 hk1 hS1 => by cases hw)
theorem end_roi {v x : Int32} (hexec : p.tables.exec = Jvm.exec) (hb : c.code = cc) (hr : meth.sig.returnType = some .int) (he : x = v) (hS : va_S nof s.heap H locs) (hdg : decode cc pc = .ok (.ireturn, 1)) (hlocks : meth.locks = false) : W p l e R s m args below meth c H locs 0 0 (MQ below (roI v) args s 0 0 nof) (F0 m pc ls [.int x]) :=
  W.iret (v := x) hexec hb hr (fun t ht hW => ⟨⟨x, (), rfl, he, trivial⟩, hS.F ht⟩) (fun q hq => (hS.2.2 q hq).elim) hdg hlocks
theorem end_rwi {v x : Int32} (hexec : p.tables.exec = Jvm.exec) (hb : c.code = cc) (hr : meth.sig.returnType = some .int) (he : x = v) (hI : IH D cy h0 w s H) (hS : va_S A1 s.heap H locs) (hdg : decode cc pc = .ok (.ireturn, 1)) (hlocks : meth.locks = false) : W p l e R s m args below meth c H locs 0 0 (MQ below (rwI v D cy h0 w A1) args s 0 0 A1) (F0 m pc ls [.int x]) :=
  W.iret (v := x) hexec hb hr (fun t ht hW => ⟨⟨x, (), rfl, he, hI.warm hW ht⟩, hS.F ht⟩) (fun q hq => hS.2.2 q hq) hdg hlocks
theorem end_xoi {v x : Int32} (hexec : p.tables.exec = Jvm.exec) (hb : c.code = cc) (hr : meth.sig.returnType = some .int) (hex : ex = none) (he : x = v) (hS : va_S nof s.heap H locs) (hdg : decode cc pc = .ok (.ireturn, 1)) (hlocks : meth.locks = false) : W p l e R s m args below meth c H locs 0 0 (vx_MQ below (xoI ex v) (xx ex) args s (c1 ex) (c6 ex) nof) (F0 m pc ls [.int x]) := by
  subst hex
  exact vx_ret (W.iret (v := x) hexec hb hr (fun t ht hW => ⟨⟨x, (), rfl, ⟨rfl, he⟩, trivial⟩, hS.F ht⟩) (fun q hq => (hS.2.2 q hq).elim) hdg hlocks)
theorem end_xwi {v x : Int32} (hexec : p.tables.exec = Jvm.exec) (hb : c.code = cc) (hr : meth.sig.returnType = some .int) (hex : ex = none) (he : x = v) (hI : IH D cy h0 w s H) (hS : va_S A1 s.heap H locs) (hdg : decode cc pc = .ok (.ireturn, 1)) (hlocks : meth.locks = false) : W p l e R s m args below meth c H locs 0 0 (vx_MQ below (xwI ex v D cy h0 w A1) (xx ex) args s (c1 ex) (c6 ex) A1) (F0 m pc ls [.int x]) := by
  subst hex
  exact vx_ret (W.iret (v := x) hexec hb hr (fun t ht hW => ⟨⟨x, (), rfl, ⟨rfl, he⟩, hI.warm hW ht⟩, hS.F ht⟩) (fun q hq => hS.2.2 q hq) hdg hlocks)
theorem end_roz {v x : Int32} (hexec : p.tables.exec = Jvm.exec) (hb : c.code = cc) (hr : meth.sig.returnType = some .boolean) (hn : narrow .boolean (.int x) = .int x) (he : x = v) (hS : va_S nof s.heap H locs) (hdg : decode cc pc = .ok (.ireturn, 1)) (hlocks : meth.locks = false) : W p l e R s m args below meth c H locs 0 0 (MQ below (roI v) args s 0 0 nof) (F0 m pc ls [.int x]) :=
  W.zret (v := x) hexec hb hr hn (fun t ht hW => ⟨⟨x, (), rfl, he, trivial⟩, hS.F ht⟩) (fun q hq => (hS.2.2 q hq).elim) hdg hlocks
theorem end_rwz {v x : Int32} (hexec : p.tables.exec = Jvm.exec) (hb : c.code = cc) (hr : meth.sig.returnType = some .boolean) (hn : narrow .boolean (.int x) = .int x) (he : x = v) (hI : IH D cy h0 w s H) (hS : va_S A1 s.heap H locs) (hdg : decode cc pc = .ok (.ireturn, 1)) (hlocks : meth.locks = false) : W p l e R s m args below meth c H locs 0 0 (MQ below (rwI v D cy h0 w A1) args s 0 0 A1) (F0 m pc ls [.int x]) :=
  W.zret (v := x) hexec hb hr hn (fun t ht hW => ⟨⟨x, (), rfl, he, hI.warm hW ht⟩, hS.F ht⟩) (fun q hq => hS.2.2 q hq) hdg hlocks
theorem end_xoz {v x : Int32} (hexec : p.tables.exec = Jvm.exec) (hb : c.code = cc) (hr : meth.sig.returnType = some .boolean) (hn : narrow .boolean (.int x) = .int x) (hex : ex = none) (he : x = v) (hS : va_S nof s.heap H locs) (hdg : decode cc pc = .ok (.ireturn, 1)) (hlocks : meth.locks = false) : W p l e R s m args below meth c H locs 0 0 (vx_MQ below (xoI ex v) (xx ex) args s (c1 ex) (c6 ex) nof) (F0 m pc ls [.int x]) := by
  subst hex
  exact vx_ret (W.zret (v := x) hexec hb hr hn (fun t ht hW => ⟨⟨x, (), rfl, ⟨rfl, he⟩, trivial⟩, hS.F ht⟩) (fun q hq => (hS.2.2 q hq).elim) hdg hlocks)
theorem end_xwz {v x : Int32} (hexec : p.tables.exec = Jvm.exec) (hb : c.code = cc) (hr : meth.sig.returnType = some .boolean) (hn : narrow .boolean (.int x) = .int x) (hex : ex = none) (he : x = v) (hI : IH D cy h0 w s H) (hS : va_S A1 s.heap H locs) (hdg : decode cc pc = .ok (.ireturn, 1)) (hlocks : meth.locks = false) : W p l e R s m args below meth c H locs 0 0 (vx_MQ below (xwI ex v D cy h0 w A1) (xx ex) args s (c1 ex) (c6 ex) A1) (F0 m pc ls [.int x]) := by
  subst hex
  exact vx_ret (W.zret (v := x) hexec hb hr hn (fun t ht hW => ⟨⟨x, (), rfl, ⟨rfl, he⟩, hI.warm hW ht⟩, hS.F ht⟩) (fun q hq => hS.2.2 q hq) hdg hlocks)
theorem end_rol {v x : Int64} (hexec : p.tables.exec = Jvm.exec) (hb : c.code = cc) (hr : meth.sig.returnType = some .long) (he : x = v) (hS : va_S nof s.heap H locs) (hdg : decode cc pc = .ok (.lreturn, 1)) (hlocks : meth.locks = false) : W p l e R s m args below meth c H locs 0 0 (MQ below (roL v) args s 0 0 nof) (F0 m pc ls [.long x]) :=
  W.lret (v := x) hexec hb hr (fun t ht hW => ⟨⟨x, (), rfl, he, trivial⟩, hS.F ht⟩) (fun q hq => (hS.2.2 q hq).elim) hdg hlocks
theorem end_rwl {v x : Int64} (hexec : p.tables.exec = Jvm.exec) (hb : c.code = cc) (hr : meth.sig.returnType = some .long) (he : x = v) (hI : IH D cy h0 w s H) (hS : va_S A1 s.heap H locs) (hdg : decode cc pc = .ok (.lreturn, 1)) (hlocks : meth.locks = false) : W p l e R s m args below meth c H locs 0 0 (MQ below (rwL v D cy h0 w A1) args s 0 0 A1) (F0 m pc ls [.long x]) :=
  W.lret (v := x) hexec hb hr (fun t ht hW => ⟨⟨x, (), rfl, he, hI.warm hW ht⟩, hS.F ht⟩) (fun q hq => hS.2.2 q hq) hdg hlocks
theorem end_rof {v x : UInt32} (hexec : p.tables.exec = Jvm.exec) (hb : c.code = cc) (hr : meth.sig.returnType = some .float) (he : x = v) (hS : va_S nof s.heap H locs) (hdg : decode cc pc = .ok (.freturn, 1)) (hlocks : meth.locks = false) : W p l e R s m args below meth c H locs 0 0 (MQ below (roF v) args s 0 0 nof) (F0 m pc ls [.float x]) :=
  W.fret (v := x) hexec hb hr (fun t ht hW => ⟨⟨x, (), rfl, he, trivial⟩, hS.F ht⟩) (fun q hq => (hS.2.2 q hq).elim) hdg hlocks
theorem end_rwf {v x : UInt32} (hexec : p.tables.exec = Jvm.exec) (hb : c.code = cc) (hr : meth.sig.returnType = some .float) (he : x = v) (hI : IH D cy h0 w s H) (hS : va_S A1 s.heap H locs) (hdg : decode cc pc = .ok (.freturn, 1)) (hlocks : meth.locks = false) : W p l e R s m args below meth c H locs 0 0 (MQ below (rwF v D cy h0 w A1) args s 0 0 A1) (F0 m pc ls [.float x]) :=
  W.fret (v := x) hexec hb hr (fun t ht hW => ⟨⟨x, (), rfl, he, hI.warm hW ht⟩, hS.F ht⟩) (fun q hq => hS.2.2 q hq) hdg hlocks
theorem end_xof {v x : UInt32} (hexec : p.tables.exec = Jvm.exec) (hb : c.code = cc) (hr : meth.sig.returnType = some .float) (hex : ex = none) (he : x = v) (hS : va_S nof s.heap H locs) (hdg : decode cc pc = .ok (.freturn, 1)) (hlocks : meth.locks = false) : W p l e R s m args below meth c H locs 0 0 (vx_MQ below (xoF ex v) (xx ex) args s (c1 ex) (c6 ex) nof) (F0 m pc ls [.float x]) := by
  subst hex
  exact vx_ret (W.fret (v := x) hexec hb hr (fun t ht hW => ⟨⟨x, (), rfl, ⟨rfl, he⟩, trivial⟩, hS.F ht⟩) (fun q hq => (hS.2.2 q hq).elim) hdg hlocks)
theorem end_rov (hexec : p.tables.exec = Jvm.exec) (hb : c.code = cc) (hr : meth.sig.returnType = none) (hS : va_S nof s.heap H locs) (hdg : decode cc pc = .ok (.return_, 1)) (hlocks : meth.locks = false) : W p l e R s m args below meth c H locs 0 0 (MQ below (roV) args s 0 0 nof) (F0 m pc ls []) :=
  W.vret hexec hb hr (fun t ht hW => ⟨⟨(), rfl, trivial, trivial⟩, hS.F ht⟩) (fun q hq => (hS.2.2 q hq).elim) hdg hlocks
theorem end_rwv (hexec : p.tables.exec = Jvm.exec) (hb : c.code = cc) (hr : meth.sig.returnType = none) (hI : IH D cy h0 w s H) (hS : va_S A1 s.heap H locs) (hdg : decode cc pc = .ok (.return_, 1)) (hlocks : meth.locks = false) : W p l e R s m args below meth c H locs 0 0 (MQ below (rwV D cy h0 w A1) args s 0 0 A1) (F0 m pc ls []) :=
  W.vret hexec hb hr (fun t ht hW => ⟨⟨(), rfl, trivial, hI.warm hW ht⟩, hS.F ht⟩) (fun q hq => hS.2.2 q hq) hdg hlocks
theorem end_xov (hexec : p.tables.exec = Jvm.exec) (hb : c.code = cc) (hr : meth.sig.returnType = none) (hex : ex = none) (hS : va_S nof s.heap H locs) (hdg : decode cc pc = .ok (.return_, 1)) (hlocks : meth.locks = false) : W p l e R s m args below meth c H locs 0 0 (vx_MQ below (xoV ex) (xx ex) args s (c1 ex) (c6 ex) nof) (F0 m pc ls []) := by
  subst hex
  exact vx_ret (W.vret hexec hb hr (fun t ht hW => ⟨⟨(), rfl, rfl, trivial⟩, hS.F ht⟩) (fun q hq => (hS.2.2 q hq).elim) hdg hlocks)
/-- a callee's throw goes on to the caller -/
theorem r_out {Qc : Array Value → State → Outcome → State → Prop} {E : String} {ce : Cell} {q9 : Nat} (hex : ex = some E) (hS : va_S nof s.heap H locs) (hout : ∀ x ∈ c.exceptionTable.toList, False) (hlocks : meth.locks = false) (hcell : H[q9]? = some ce) (hv : ce.vm = .none) (hcl : s.vm.findClass E = some ce.cls) :
    vx_W p l e R s m args below meth c H locs (0 + 1) (0 + 6) (vx_MQ below Qc (xx ex) args s (c1 ex) (c6 ex) A1) (F0 m pc ls rest) q9 := by
  subst hex
  exact vx_out (fun x hx => (hout x hx).elim) hlocks hcell hv hcl (fun t ht _ => ⟨(), trivial, rfl, hS.F ht⟩) (fun z hz => (hS.2.2 z hz).elim) (Nat.le_refl _) (Nat.le_refl _)
def nm2 : List String := ["java/lang/RuntimeException", "java/lang/Exception"]
def thB (cls : String) : List Cond := Cond.castable cls cls :: aD.map Cond.declares
theorem thB_at {U : State} {cls : String} (h : ambW U) (hc : cls ∈ aC) : ∀ w ∈ thB cls, w.before args U = true := by
  obtain ⟨-, -, h3, h4, -⟩ := h
  intro w hw
  rcases List.mem_cons.mp hw with rfl | hw
  · exact va_Nw.use rfl (h3 _ hc)
  · obtain ⟨y, hy, rfl⟩ := List.mem_map.mp hw
    exact va_Nw.use rfl (h4 y hy)
/-- throw new cls(text) of Buildlots -/
theorem r_throw {Qc : Array Value → State → Outcome → State → Prop} {cls text : String} {ik is ic : Nat} (hexec : p.tables.exec = Jvm.exec) (hb : c.code = cc) (hl : l.stackTraces = false) (hown : s.vm.findClass RX3 = some m.cls)
    (hcls : cls ∈ aC) (hfit : Bundle.fit cls = true) (hgood : ∀ w ∈ Cond.classLink RX3 ik cls :: Cond.initialized cls :: vx_atS RX3 ic cls nm2, vx_ot w = true) (hB : ∀ w ∈ (vx_atS RX3 ic cls nm2).filter (fun w => !goodWord w), w ∈ thB cls)
    (hk : (Cond.classLink RX3 ik cls).before args s = true) (hini : (Cond.initialized cls).before args s = true) (hw : ∀ w ∈ (vx_atS RX3 ic cls nm2).filter goodWord, w.before args s = true) (hs : (is, text) ∈ aS)
    (hG : amb D cy h0 s s.heap) (hS : va_S nof s.heap H locs) (hsize : ls.size = c.maxLocals) (hex : ex = some cls)
    (d0 : decode cc pc = .ok (.new ik, 3)) (d3 : decode cc (pc + 3) = .ok (.dup, 1)) (d4 : decode cc (pc + 4) = .ok (.ldc is, 2)) (d6 : decode cc (pc + 6) = .ok (.invokespecial ic, 3)) (d9 : decode cc (pc + 9) = .ok (.athrow, 1))
    (hout : ∀ x ∈ c.exceptionTable.toList, False) (hRf : 6 ≤ R.frames) (hRl : (rest.map fun v => v.category).sum + 82 ≤ R.locals) (hRc : c1 ex ≤ R.cells) (hRs : c6 ex ≤ R.slots) (hlocks : meth.locks = false) :
    W p l e R s m args below meth c H locs 0 0 (vx_MQ below Qc (xx ex) args s (c1 ex) (c6 ex) A1) (F0 m pc ls rest) := by
  subst hex
  obtain ⟨sa, hsa⟩ := hG.1.2.2.2.2.2 _ hs
  exact vx_throwS (A := nof) (names := nm2) hexec hb hl hown hfit (by decide) hk hini hsa (vx_hat hw hB (thB_at hG.1 hcls)) hgood (hG.2.1.1.narrow (fun _ h => h.elim)) (hG.2.1.2.narrow (fun _ h => h.elim)) hS hsize d0 d3 d4 d6 d9 (fun x hx => (hout x hx).elim) hRf hRl hRc hRs hlocks
    (fun t _ hz hq => ⟨(), trivial, rfl, Nat.le_trans hS.1 hz, fun q h1 h2 => (hq q (Nat.lt_of_lt_of_le h1 hS.1)).trans (hS.2.1 q h1 h2)⟩) (fun z hz => (hS.2.2 z hz).elim) (Nat.le_refl _) (Nat.le_refl _)
def nY : String := "java/lang/RuntimeException"
def nm1 : List String := ["java/lang/Exception"]
theorem r_throwN {Qc : Array Value → State → Outcome → State → Prop} {cls text : String} {ik is ic : Nat} (hexec : p.tables.exec = Jvm.exec) (hb : c.code = cc) (hl : l.stackTraces = false) (hown : s.vm.findClass RX3 = some m.cls)
    (hcls : cls ∈ aC) (hfit : Bundle.fit cls = true) (hgood : ∀ w ∈ Cond.classLink RX3 ik cls :: Cond.initialized cls :: vx_atN RX3 ic cls nY nm1, vx_ot w = true) (hB : ∀ w ∈ (vx_atN RX3 ic cls nY nm1).filter (fun w => !goodWord w), w ∈ thB cls)
    (hk : (Cond.classLink RX3 ik cls).before args s = true) (hini : (Cond.initialized cls).before args s = true) (hw : ∀ w ∈ (vx_atN RX3 ic cls nY nm1).filter goodWord, w.before args s = true) (hs : (is, text) ∈ aS)
    (hG : amb D cy h0 s s.heap) (hS : va_S nof s.heap H locs) (hsize : ls.size = c.maxLocals) (hex : ex = some cls)
    (d0 : decode cc pc = .ok (.new ik, 3)) (d3 : decode cc (pc + 3) = .ok (.dup, 1)) (d4 : decode cc (pc + 4) = .ok (.ldc is, 2)) (d6 : decode cc (pc + 6) = .ok (.invokespecial ic, 3)) (d9 : decode cc (pc + 9) = .ok (.athrow, 1))
    (hout : ∀ x ∈ c.exceptionTable.toList, False) (hRf : 6 ≤ R.frames) (hRl : (rest.map fun v => v.category).sum + 82 ≤ R.locals) (hRc : c1 ex ≤ R.cells) (hRs : c6 ex ≤ R.slots) (hlocks : meth.locks = false) :
    W p l e R s m args below meth c H locs 0 0 (vx_MQ below Qc (xx ex) args s (c1 ex) (c6 ex) A1) (F0 m pc ls rest) := by
  subst hex
  obtain ⟨sa, hsa⟩ := hG.1.2.2.2.2.2 _ hs
  exact vx_throwN (A := nof) (Yn := nY) (names := nm1) hexec hb hl hown hfit (by decide) (by decide) hk hini hsa (vx_hat hw hB (thB_at hG.1 hcls)) hgood (hG.2.1.1.narrow (fun _ h => h.elim)) (hG.2.1.2.narrow (fun _ h => h.elim)) hS hsize d0 d3 d4 d6 d9 (fun x hx => (hout x hx).elim) hRf hRl hRc hRs hlocks
    (fun t _ hz hq => ⟨(), trivial, rfl, Nat.le_trans hS.1 hz, fun q h1 h2 => (hq q (Nat.lt_of_lt_of_le h1 hS.1)).trans (hS.2.1 q h1 h2)⟩) (fun z hz => (hS.2.2 z hz).elim) (Nat.le_refl _) (Nat.le_refl _)
/-- reads and writes of rows at an index that is a small number -/
theorem r_iald {q0 : Nat} {b n j : Nat} {f : Nat → Int32} {i : Int32} (hexec : p.tables.exec = Jvm.exec) (hb : c.code = cc) (hI : IH D cy h0 w s H) (ha : w[q0]? = some (b, .inl (cy 0, n, .inl f))) (hi : i = nI j) (hj : j < n) (hn : n ≤ 64) (hdg : decode cc pc = .ok (.iaload, 1))
    (kk : W p l e R s m args below meth c H locs cells slots Q (F0 m (pc + 1) ls (.int (f j) :: rest))) : W p l e R s m args below meth c H locs cells slots Q (F0 m pc ls (.int i :: .ref b :: rest)) := by
  subst hi
  refine va_iald (q0 := q0) (t0 := 0) hexec hb hI.1.2.2.1 hI.2.1 ha rfl (vp_in_nI hj (by omega)) hdg ?_
  rw [nI_clamp (by omega)]
  exact kk
theorem r_zald {q0 : Nat} {b n j : Nat} {f : Nat → Int32} {i : Int32} (hexec : p.tables.exec = Jvm.exec) (hb : c.code = cc) (hI : IH D cy h0 w s H) (ha : w[q0]? = some (b, .inl (cy 1, n, .inl f))) (hi : i = nI j) (hj : j < n) (hn : n ≤ 64) (hdg : decode cc pc = .ok (.baload, 1))
    (kk : W p l e R s m args below meth c H locs cells slots Q (F0 m (pc + 1) ls (.int (f j) :: rest))) : W p l e R s m args below meth c H locs cells slots Q (F0 m pc ls (.int i :: .ref b :: rest)) := by
  subst hi
  refine va_zald (q0 := q0) (t0 := 1) hexec hb hI.1.2.2.1 hI.2.1 ha rfl (vp_in_nI hj (by omega)) hdg ?_
  rw [nI_clamp (by omega)]
  exact kk
theorem r_iast {q0 : Nat} {b n j : Nat} {f : Nat → Int32} {i x : Int32} (hexec : p.tables.exec = Jvm.exec) (hb : c.code = cc) (hI : IH D cy h0 w s H) (hS : va_S A0 H0 H locs) (hA : ∀ q, A0 q → h0 ≤ q) (hh : h0 ≤ H0.size) (hwA : va_D A0 w) (ha : w[q0]? = some (b, .inl (cy 0, n, .inl f))) (hi : i = nI j) (hj : j < n) (hn : n ≤ 64) (hdg : decode cc pc = .ok (.iastore, 1))
    (hw' : w.set q0 (b, .inl (cy 0, n, .inl (upd f j x))) = w') (kk : ∀ (H1 : Heap) (locs1 : List Loc), IH D cy h0 w' s H1 → va_S A0 H0 H1 locs1 → W p l e R s m args below meth c H1 locs1 cells slots Q (F0 m (pc + 1) ls rest)) : W p l e R s m args below meth c H locs cells slots Q (F0 m pc ls (.int x :: .int i :: .ref b :: rest)) := by
  subst hi
  subst hw'
  refine va_iast (q0 := q0) (t0 := 0) hexec hb hI.1.2.2.1 hI.2.1 hwA hS ha rfl (vp_in_nI hj (by omega)) hdg (fun H1 locs1 hP hD hS1 => ?_)
  rw [nI_clamp (by omega)] at hP hD
  exact kk H1 locs1 ⟨hI.1.put hS hS1 hA hh, hP, hD.weaken (fun _ _ _ h => hA _ h)⟩ hS1
theorem r_zast {q0 : Nat} {b n j : Nat} {f : Nat → Int32} {i x : Int32} (hexec : p.tables.exec = Jvm.exec) (hb : c.code = cc) (hI : IH D cy h0 w s H) (hS : va_S A0 H0 H locs) (hA : ∀ q, A0 q → h0 ≤ q) (hh : h0 ≤ H0.size) (hwA : va_D A0 w) (ha : w[q0]? = some (b, .inl (cy 1, n, .inl f))) (hi : i = nI j) (hj : j < n) (hn : n ≤ 64) (hx : vp_nar .boolean x = x) (hdg : decode cc pc = .ok (.bastore, 1))
    (hw' : w.set q0 (b, .inl (cy 1, n, .inl (upd f j x))) = w') (kk : ∀ (H1 : Heap) (locs1 : List Loc), IH D cy h0 w' s H1 → va_S A0 H0 H1 locs1 → W p l e R s m args below meth c H1 locs1 cells slots Q (F0 m (pc + 1) ls rest)) : W p l e R s m args below meth c H locs cells slots Q (F0 m pc ls (.int x :: .int i :: .ref b :: rest)) := by
  subst hi
  subst hw'
  refine va_zast (q0 := q0) (t0 := 1) hexec hb hI.1.2.2.1 hI.2.1 hwA hS ha rfl (vp_in_nI hj (by omega)) hdg (fun H1 locs1 hP hD hS1 => ?_)
  rw [nI_clamp (by omega), hx] at hP hD
  exact kk H1 locs1 ⟨hI.1.put hS hS1 hA hh, hP, hD.weaken (fun _ _ _ h => hA _ h)⟩ hS1
/-- a field written -/
theorem r_put {own ref C : String} {T : u_T} {N ci index : Nat} {Ts : List Cond} {q0 b : Nat} {ty0 : Nat → FieldType} {fs : List Value} {k : Nat} {ty : FieldType} {v : Value} (hexec : p.tables.exec = Jvm.exec) (hb : c.code = cc) (hts : ∀ w ∈ Ts, w.before args s = true) (hin : ∀ w ∈ u_ws C T N, w ∈ Ts) (hty : ∀ k, k < N → parseFieldDescriptor (T k).2.2.1 = some (ty0 k)) (hnm : ∀ a, a < N → ∀ b, b < N → a ≠ b → (T a).2.1 ≠ (T b).2.1) (hown : s.vm.findClass own = some m.cls)
    (hI : IH D cy h0 w s H) (hS : va_S A0 H0 H locs) (hA : ∀ q, A0 q → h0 ≤ q) (hh : h0 ≤ H0.size) (hwA : va_D A0 w) (he : w[q0]? = some (b, .inr (ci, fs))) (hc : vwCl[ci]? = some (C, T, N)) (hk : k < N) (hlink : (Cond.fieldLink own index ref (T k).2.1 (T k).2.2.1).before args s = true) (hsame : (T k).1 = ref) (hfin : (T k).2.2.2 = false) (hd : parseFieldDescriptor (T k).2.2.1 = some ty) (hn : narrow ty v = v) (hfit : fits ty v = true) (hl : k < fs.length) (hdg : decode cc pc = .ok (.putfield index, 3))
    (hw' : w.set q0 (b, .inr (ci, fs.set k v)) = w') (kk : ∀ (H1 : Heap) (locs1 : List Loc), IH D cy h0 w' s H1 → va_S A0 H0 H1 locs1 → W p l e R s m args below meth c H1 locs1 cells slots Q (F0 m (pc + 3) ls rest)) : W p l e R s m args below meth c H locs cells slots Q (F0 m pc ls (v :: .ref b :: rest)) := by
  subst hw'
  subst hsame
  exact va_put (D := D) (ci := ci) (v := v) (ty := ty) (C := C) (T := T) (N := N) hexec hb hts hin ty0 hty hnm hown hI.1.2.2.1 hI.2.1 hwA hS q0 he hc k hk hlink (fun _ h9 => h9) hfin hd hn hfit hl hdg (fun H1 locs1 hP hD hS1 => kk H1 locs1 ⟨hI.1.put hS hS1 hA hh, hP, hD.weaken (fun _ _ _ h => hA _ h)⟩ hS1)
theorem r_putN {ref C : String} {T : u_T} {N ci index : Nat} {Ts : List Cond} {q0 b : Nat} {ty0 : Nat → FieldType} {fs : List Value} {k : Nat} {ty : FieldType} {v : Value} (hexec : p.tables.exec = Jvm.exec) (hb : c.code = cc) (hts : ∀ w ∈ Ts, w.before args s = true) (hin : ∀ w ∈ u_ws C T N, w ∈ Ts) (hty : ∀ k, k < N → parseFieldDescriptor (T k).2.2.1 = some (ty0 k)) (hnm : ∀ a, a < N → ∀ b, b < N → a ≠ b → (T a).2.1 ≠ (T b).2.1) (hown : s.vm.findClass RX3 = some m.cls)
    (hI : IH D cy h0 w s H) (hS : va_S A0 H0 H locs) (hA : ∀ q, A0 q → h0 ≤ q) (hh : h0 ≤ H0.size) (hwA : va_D A0 w) (he : w[q0]? = some (b, .inr (ci, fs))) (hc : vwCl[ci]? = some (C, T, N)) (hk : k < N) (hlink : (index, ref, (T k).2.1, (T k).2.2.1) ∈ aF) (hsame : (T k).1 = ref) (hfin : (T k).2.2.2 = false) (hd : parseFieldDescriptor (T k).2.2.1 = some ty) (hn : narrow ty v = v) (hfit : fits ty v = true) (hl : k < fs.length) (hdg : decode cc pc = .ok (.putfield index, 3))
    (hw' : w.set q0 (b, .inr (ci, fs.set k v)) = w') (kk : ∀ (H1 : Heap) (locs1 : List Loc), IH D cy h0 w' s H1 → va_S A0 H0 H1 locs1 → W p l e R s m args below meth c H1 locs1 cells slots Q (F0 m (pc + 3) ls rest)) : W p l e R s m args below meth c H locs cells slots Q (F0 m pc ls (v :: .ref b :: rest)) := by
  subst hw'
  subst hsame
  exact va_putN (D := D) (ci := ci) (v := v) (ty := ty) (C := C) (T := T) (N := N) hexec hb hts hin ty0 hty hnm hown hI.1.2.2.1 hI.2.1 hwA hS q0 he hc k hk (va_Nw.use rfl (hI.1.1.1 _ hlink)) (fun _ h9 => h9) hfin hd hn hfit hl hdg (fun H1 locs1 hP hD hS1 => kk H1 locs1 ⟨hI.1.put hS hS1 hA hh, hP, hD.weaken (fun _ _ _ h => hA _ h)⟩ hS1)
theorem r_get {own ref C : String} {T : u_T} {N ci index : Nat} {Ts : List Cond} {q0 b : Nat} {fs : List Value} {k : Nat} {v : Value} (hexec : p.tables.exec = Jvm.exec) (hb : c.code = cc) (hts : ∀ w ∈ Ts, w.before args s = true) (hin : ∀ w ∈ u_ws C T N, w ∈ Ts) (hown : s.vm.findClass own = some m.cls) (hI : IH D cy h0 w s H) (he : w[q0]? = some (b, .inr (ci, fs))) (hc : vwCl[ci]? = some (C, T, N)) (hk : k < N) (hlink : (Cond.fieldLink own index ref (T k).2.1 (T k).2.2.1).before args s = true) (hsame : (T k).1 = ref) (hv : fs[k]? = some v) (hdg : decode cc pc = .ok (.getfield index, 3))
    (kk : W p l e R s m args below meth c H locs cells slots Q (F0 m (pc + 3) ls (v :: rest))) : W p l e R s m args below meth c H locs cells slots Q (F0 m pc ls (.ref b :: rest)) := by
  subst hsame
  exact va_get (D := D) (ci := ci) (v := v) (C := C) (T := T) (N := N) hexec hb hts hin hown hI.1.2.2.1 hI.2.1 q0 he hc k hk hlink (fun _ h9 => h9) hv hdg kk
theorem r_getN {ref C : String} {T : u_T} {N ci index : Nat} {Ts : List Cond} {q0 b : Nat} {fs : List Value} {k : Nat} {v : Value} (hexec : p.tables.exec = Jvm.exec) (hb : c.code = cc) (hts : ∀ w ∈ Ts, w.before args s = true) (hin : ∀ w ∈ u_ws C T N, w ∈ Ts) (hown : s.vm.findClass RX3 = some m.cls) (hI : IH D cy h0 w s H) (he : w[q0]? = some (b, .inr (ci, fs))) (hc : vwCl[ci]? = some (C, T, N)) (hk : k < N) (hlink : (index, ref, (T k).2.1, (T k).2.2.1) ∈ aF) (hsame : (T k).1 = ref) (hv : fs[k]? = some v) (hdg : decode cc pc = .ok (.getfield index, 3))
    (kk : W p l e R s m args below meth c H locs cells slots Q (F0 m (pc + 3) ls (v :: rest))) : W p l e R s m args below meth c H locs cells slots Q (F0 m pc ls (.ref b :: rest)) := by
  subst hsame
  exact va_getN (D := D) (ci := ci) (v := v) (C := C) (T := T) (N := N) hexec hb hts hin hown hI.1.2.2.1 hI.2.1 q0 he hc k hk (va_Nw.use rfl (hI.1.1.1 _ hlink)) (fun _ h9 => h9) hv hdg kk
end ROWS

set_option maxRecDepth 20000 in
theorem tg_IAE : ∀ w ∈ Cond.classLink RX3 48 xIAE :: Cond.initialized xIAE :: vx_atS RX3 52 xIAE nm2, vx_ot w = true := by decide +kernel
set_option maxRecDepth 20000 in
theorem tb_IAE : ∀ w ∈ (vx_atS RX3 52 xIAE nm2).filter (fun w => !goodWord w), w ∈ thB xIAE := by decide +kernel
set_option maxRecDepth 20000 in
theorem tg_ISE : ∀ w ∈ Cond.classLink RX3 58 xISE :: Cond.initialized xISE :: vx_atS RX3 62 xISE nm2, vx_ot w = true := by decide +kernel
set_option maxRecDepth 20000 in
theorem tb_ISE : ∀ w ∈ (vx_atS RX3 62 xISE nm2).filter (fun w => !goodWord w), w ∈ thB xISE := by decide +kernel
set_option maxRecDepth 20000 in
theorem tg_IOB : ∀ w ∈ Cond.classLink RX3 235 xIOB :: Cond.initialized xIOB :: vx_atS RX3 239 xIOB nm2, vx_ot w = true := by decide +kernel
set_option maxRecDepth 20000 in
theorem tb_IOB : ∀ w ∈ (vx_atS RX3 239 xIOB nm2).filter (fun w => !goodWord w), w ∈ thB xIOB := by decide +kernel
set_option maxRecDepth 20000 in
theorem tg_UOE : ∀ w ∈ Cond.classLink RX3 121 xUOE :: Cond.initialized xUOE :: vx_atS RX3 125 xUOE nm2, vx_ot w = true := by decide +kernel
set_option maxRecDepth 20000 in
theorem tb_UOE : ∀ w ∈ (vx_atS RX3 125 xUOE nm2).filter (fun w => !goodWord w), w ∈ thB xUOE := by decide +kernel
set_option maxRecDepth 20000 in
theorem tg_NSE : ∀ w ∈ Cond.classLink RX3 197 xNSE :: Cond.initialized xNSE :: vx_atN RX3 201 xNSE nY nm1, vx_ot w = true := by decide +kernel
set_option maxRecDepth 20000 in
theorem tb_NSE : ∀ w ∈ (vx_atN RX3 201 xNSE nY nm1).filter (fun w => !goodWord w), w ∈ thB xNSE := by decide +kernel
/-! the two worlds: the class's 19 cells, the model's 18; A k, B k: the rows; S k, T k: the numbers -/
def wX (cy : Nat → ClassId) (q : Nat → Nat) (A : Nat → Nat → Int32) (S : Nat → Int32) : va_W :=
  [(q 0, .inr (3, [.ref (q 1), .ref (q 2), .ref (q 3), .ref (q 4), .ref (q 5), .int (S 0), .int (S 1)])),
   (q 1, .inr (1, [.ref (q 6), .ref (q 7), .ref (q 8), .int (S 2), .int (S 3)])),
   (q 2, .inr (0, [.ref (q 9), .ref (q 10), .ref (q 11), .ref (q 12), .ref (q 13), .ref (q 14), .ref (q 15), .ref (q 16), .int (S 4), .int (S 5)])),
   (q 3, .inr (2, [.ref (q 17), .ref (q 18), .int (S 6)])),
   (q 4, .inl (cy 0, 4, .inl (A 0))), (q 5, .inl (cy 0, 5, .inl (A 1))),
   (q 6, .inl (cy 0, 8, .inl (A 2))), (q 7, .inl (cy 0, 8, .inl (A 3))), (q 8, .inl (cy 0, 8, .inl (A 4))),
   (q 9, .inl (cy 0, 24, .inl (A 5))), (q 10, .inl (cy 0, 24, .inl (A 6))), (q 11, .inl (cy 0, 24, .inl (A 7))), (q 12, .inl (cy 0, 24, .inl (A 8))), (q 13, .inl (cy 0, 24, .inl (A 9))), (q 14, .inl (cy 0, 24, .inl (A 10))), (q 15, .inl (cy 0, 24, .inl (A 11))), (q 16, .inl (cy 0, 24, .inl (A 12))),
   (q 17, .inl (cy 0, 3, .inl (A 13))), (q 18, .inl (cy 0, 3, .inl (A 14)))]
def wM (cy : Nat → ClassId) (q : Nat → Nat) (B : Nat → Nat → Int32) (T : Nat → Int32) : va_W :=
  [(q 0, .inr (4, [.ref (q 1), .ref (q 2), .int (T 0), .ref (q 3), .ref (q 4), .ref (q 5), .ref (q 6), .int (T 1), .ref (q 7), .ref (q 8), .ref (q 9), .ref (q 10), .ref (q 11), .ref (q 12), .ref (q 13), .ref (q 14), .int (T 2), .ref (q 15), .ref (q 16), .ref (q 17), .int (T 3), .int (T 4), .int (T 5)])),
   (q 1, .inl (cy 0, 4, .inl (B 0))), (q 2, .inl (cy 0, 5, .inl (B 1))),
   (q 3, .inl (cy 0, 8, .inl (B 2))), (q 4, .inl (cy 0, 8, .inl (B 3))), (q 5, .inl (cy 0, 8, .inl (B 4))), (q 6, .inl (cy 1, 8, .inl (B 5))),
   (q 7, .inl (cy 0, 24, .inl (B 6))), (q 8, .inl (cy 0, 24, .inl (B 7))), (q 9, .inl (cy 0, 24, .inl (B 8))), (q 10, .inl (cy 0, 24, .inl (B 9))), (q 11, .inl (cy 0, 24, .inl (B 10))), (q 12, .inl (cy 1, 24, .inl (B 11))), (q 13, .inl (cy 0, 24, .inl (B 12))), (q 14, .inl (cy 0, 24, .inl (B 13))),
   (q 15, .inl (cy 0, 3, .inl (B 14))), (q 16, .inl (cy 0, 3, .inl (B 15))), (q 17, .inl (cy 0, 3, .inl (B 16)))]
/-- the cells of a world that starts at q 0 and has n places -/
def qA (n : Nat) (q : Nat → Nat) : Nat → Prop := fun x => ∃ k, k < n ∧ x = q k
/-- a row, a number of the state replaced -/
def uA (A : Nat → Nat → Int32) (k : Nat) (f : Nat → Int32) : Nat → Nat → Int32 := fun i => if i = k then f else A i
def uS (S : Nat → Int32) (k : Nat) (x : Int32) : Nat → Int32 := fun i => if i = k then x else S i
theorem qA_X {D : va_G} {cy : Nat → ClassId} {h0 : Nat} {q : Nat → Nat} {A : Nat → Nat → Int32} {S : Nat → Int32} {s : State} {H : Heap} (h : IH D cy h0 (wX cy q A S) s H) : va_D (qA 19 q) (wX cy q A S) := by
  refine h.dA (fun k x hk => ?_)
  have hl : k < 19 := (List.getElem?_eq_some_iff.mp hk).1
  refine ⟨k, hl, ?_⟩
  have key : ∀ k, k < 19 → ((wX cy q A S)[k]?).map (·.1) = some (q k) := by
    intro k hk
    match k, hk with
    | 0, _ | 1, _ | 2, _ | 3, _ | 4, _ | 5, _ | 6, _ | 7, _ | 8, _ | 9, _ | 10, _ | 11, _ | 12, _ | 13, _ | 14, _ | 15, _ | 16, _ | 17, _ | 18, _ => rfl
    | n + 19, h => omega
  have h2 := key k hl
  rw [hk] at h2
  exact Option.some.inj h2
theorem qA_M {D : va_G} {cy : Nat → ClassId} {h0 : Nat} {q : Nat → Nat} {B : Nat → Nat → Int32} {T : Nat → Int32} {s : State} {H : Heap} (h : IH D cy h0 (wM cy q B T) s H) : va_D (qA 18 q) (wM cy q B T) := by
  refine h.dA (fun k x hk => ?_)
  have hl : k < 18 := (List.getElem?_eq_some_iff.mp hk).1
  refine ⟨k, hl, ?_⟩
  have key : ∀ k, k < 18 → ((wM cy q B T)[k]?).map (·.1) = some (q k) := by
    intro k hk
    match k, hk with
    | 0, _ | 1, _ | 2, _ | 3, _ | 4, _ | 5, _ | 6, _ | 7, _ | 8, _ | 9, _ | 10, _ | 11, _ | 12, _ | 13, _ | 14, _ | 15, _ | 16, _ | 17, _ => rfl
    | n + 18, h => omega
  have h2 := key k hl
  rw [hk] at h2
  exact Option.some.inj h2
theorem hA_X {D : va_G} {cy : Nat → ClassId} {h0 : Nat} {q : Nat → Nat} {A : Nat → Nat → Int32} {S : Nat → Int32} {s : State} {H : Heap} (h : IH D cy h0 (wX cy q A S) s H) : ∀ x, qA 19 q x → h0 ≤ x := by
  rintro x ⟨k, hk, rfl⟩
  have key : ∃ y, (wX cy q A S)[k]? = some (q k, y) := by
    match k, hk with
    | 0, _ | 1, _ | 2, _ | 3, _ | 4, _ | 5, _ | 6, _ | 7, _ | 8, _ | 9, _ | 10, _ | 11, _ | 12, _ | 13, _ | 14, _ | 15, _ | 16, _ | 17, _ | 18, _ => exact ⟨_, rfl⟩
    | n + 19, h => omega
  obtain ⟨y, hy⟩ := key
  exact h.2.2.2 k _ hy
theorem hA_M {D : va_G} {cy : Nat → ClassId} {h0 : Nat} {q : Nat → Nat} {B : Nat → Nat → Int32} {T : Nat → Int32} {s : State} {H : Heap} (h : IH D cy h0 (wM cy q B T) s H) : ∀ x, qA 18 q x → h0 ≤ x := by
  rintro x ⟨k, hk, rfl⟩
  have key : ∃ y, (wM cy q B T)[k]? = some (q k, y) := by
    match k, hk with
    | 0, _ | 1, _ | 2, _ | 3, _ | 4, _ | 5, _ | 6, _ | 7, _ | 8, _ | 9, _ | 10, _ | 11, _ | 12, _ | 13, _ | 14, _ | 15, _ | 16, _ | 17, _ => exact ⟨_, rfl⟩
    | n + 18, h => omega
  obtain ⟨y, hy⟩ := key
  exact h.2.2.2 k _ hy

