/-! The ambient facts (nest links, throws' words, strings, the two statics of Throwable), a world with them (IH), and rows over it. -/
section BASE
def tyL (cy : Nat → ClassId) : List (ClassId × FieldType) := [(cy 0, .int), (cy 1, .boolean), (cy 2, .long), (cy 3, .double)]
/-- fields of nest mates that Buildlots reads and writes -/
def aF : List (Nat × String × String × String) := [(126, RX0, "count", "I"), (133, RX0, "names", "[I"), (136, RX0, "versions", "[I"), (139, RX0, "sources", "[I"), (149, RX0, "attesters", "[I"), (156, RX0, "vouchers", "[I"), (159, RX1, "signers", "[I"), (179, RX0, "marked", "I"), (186, RX0, "told", "[I"), (191, RX0, "results", "[I"), (194, RX0, "confirmed", "[I"), (202, RX2, "count", "I"), (210, RX2, "offered", "[I"), (213, RX2, "updatedOn", "[I"), (55, RX1, "count", "I"), (70, RX1, "lost", "I"), (96, RX1, "lasts", "[I")]
def aM : List (String × Nat × MethodName) := [(RX3, 9, yX1_init), (RX3, 18, yX0_init), (RX3, 25, yX2_init), (RX3, 63, yX1_append), (RX3, 87, yX0_keepVouchers), (RX0, 57, yX1_live), (RX1, 28, yX3_holds), (RX1, 35, yX3_only), (RX0, 62, yX1_signersOf), (RX3, 103, yX1_liveOn), (RX3, 113, yX0_all), (RX0, 51, yX3_only), (RX3, 118, yX0_recalled), (RX3, 129, yX0_append), (RX0, 47, yX3_holds), (RX3, 142, yX0_newestOf), (RX3, 162, yX1_live), (RX3, 165, yX1_signersOf), (RX3, 205, yX2_append)]
def xIAE : String := "java/lang/IllegalArgumentException"
def xISE : String := "java/lang/IllegalStateException"
def xIOB : String := "java/lang/IndexOutOfBoundsException"
def xUOE : String := "java/lang/UnsupportedOperationException"
def xNSE : String := "java/util/NoSuchElementException"
def aC : List String := [xIAE, xISE, xIOB, xUOE, xNSE]
def aD : List MethodName := [⟨"java/lang/Exception", "<init>", "(Ljava/lang/String;)V"⟩, ⟨"java/lang/RuntimeException", "<init>", "(Ljava/lang/String;)V"⟩, ⟨"java/lang/Throwable", "<init>", "(Ljava/lang/String;)V"⟩]
/-- pairs of exceptions that are no kin -/
def aN : List (String × String) := [(xIAE, xISE), (xIAE, xIOB), (xIAE, xUOE), (xIAE, xNSE), (xISE, xIAE), (xISE, xIOB), (xISE, xUOE), (xISE, xNSE), (xIOB, xIAE), (xIOB, xISE), (xIOB, xUOE), (xIOB, xNSE), (xUOE, xIAE), (xUOE, xISE), (xUOE, xIOB), (xUOE, xNSE), (xNSE, xIAE), (xNSE, xISE), (xNSE, xIOB), (xNSE, xUOE)]
def aS : List (Nat × String) := [(101, "the key is lost or its last day has passed"), (106, "no such weight"), (111, "no such threshold"), (116, "an input is no build"), (123, "an input is recalled"), (127, "no room for another build"), (152, "the key is not live or has attested the build"), (154, "the build is recalled"), (182, "the build is marked"), (184, "the build is not marked"), (189, "no room for another result"), (199, "no result was told"), (203, "no room for another mirror"), (220, "no such expiry"), (222, "the list is expired"), (224, "no such number of days"), (231, "no such signer"), (233, "no such name"), (237, "no such key"), (240, "no such build"), (242, "no such mirror"), (244, "no such build of the name"), (50, "no span of days from today on"), (60, "no room for another key"), (77, "the key is lost"), (99, "no later day")]
theorem nw_ct {a b : String} {u U : State} (hvm : u.vm.Alike U.vm) (h : va_Nw (.castable a b) u) : va_Nw (.castable a b) U := by
  have h1 : (Cond.castable a b).before #[] (u.setVm U.vm) = true := by
    rw [Cond.castable_setVm hvm]
    exact h
  have e := Cond.onTables_vm (A := #[]) (A' := #[]) (U := u) (U' := U) U.vm (Cond.castable a b) rfl
  have hU : U.setVm U.vm = U := rfl
  rw [hU] at e
  unfold va_Nw
  rw [← e]
  exact h1
theorem nw_dc {y : MethodName} {u U : State} (hvm : u.vm.Alike U.vm) (h : va_Nw (.declares y) u) : va_Nw (.declares y) U := by
  have h1 : (Cond.declares y).before #[] (u.setVm U.vm) = true := by
    rw [Cond.declares_setVm hvm]
    exact h
  have e := Cond.onTables_vm (A := #[]) (A' := #[]) (U := u) (U' := U) U.vm (Cond.declares y) rfl
  have hU : U.setVm U.vm = U := rfl
  rw [hU] at e
  unfold va_Nw
  rw [← e]
  exact h1
def ambW (U : State) : Prop := (∀ x ∈ aF, va_Nw (.fieldLinkNest RX3 x.1 x.2.1 x.2.2.1 x.2.2.2 RX3) U) ∧ (∀ x ∈ aM, va_Nw (.methodLinkNest x.1 x.2.1 x.2.2 RX3) U) ∧ (∀ x ∈ aC, va_Nw (.castable x x) U) ∧ (∀ x ∈ aD, va_Nw (.declares x) U) ∧ (∀ x ∈ aN, va_Nc x.1 x.2 U) ∧ ∀ x ∈ aS, ∃ a, vk_R RX3 x.1 x.2 a U
def ambZ (h0 : Nat) (U : State) (H : Heap) : Prop := vx_Zq Bundle.tN "UNASSIGNED_STACK" Bundle.steD (fun a => h0 ≤ a) U H ∧ vx_Zq Bundle.tN "SUPPRESSED_SENTINEL" Bundle.listD (fun a => h0 ≤ a) U H
def amb (D : va_G) (cy : Nat → ClassId) (h0 : Nat) (U : State) (H : Heap) : Prop := ambW U ∧ ambZ h0 U H ∧ va_K D vwCl (tyL cy) U ∧ h0 ≤ H.size
theorem ambW.warm {s U : State} (h : ambW s) (hW : s.WarmedH U.vm) : ambW U := by
  obtain ⟨h1, h2, h3, h4, h5, h6⟩ := h
  refine ⟨fun x hx => va_Nw.warmF hW (h1 x hx), fun x hx => va_Nw.warmM hW (h2 x hx), fun x hx => nw_ct hW.alike (h3 x hx), fun x hx => nw_dc hW.alike (h4 x hx), fun x hx => va_Nc.moved hW.alike (h5 x hx), fun x hx => ?_⟩
  obtain ⟨a, ha⟩ := h6 x hx
  exact ⟨a, vk_R.warm hW ha⟩
theorem amb.warm {D : va_G} {cy : Nat → ClassId} {h0 : Nat} {s U : State} {H : Heap} (h : amb D cy h0 s H) (hW : s.WarmedH U.vm) : amb D cy h0 U H :=
  ⟨h.1.warm hW, ⟨vx_Zq.moved hW.alike h.2.1.1, vx_Zq.moved hW.alike h.2.1.2⟩, va_K.moved hW.alike h.2.2.1, h.2.2.2⟩
theorem amb.keep {D : va_G} {cy : Nat → ClassId} {h0 : Nat} {s : State} {H H1 : Heap} (h : amb D cy h0 s H) (hz : H.size ≤ H1.size) (hk : ∀ a : Nat, a < h0 → H1[a]? = H[a]?) : amb D cy h0 s H1 :=
  ⟨h.1, ⟨vx_Zq.kept h.2.1.1 (fun a _ h2 => hk a (Nat.lt_of_not_le h2)), vx_Zq.kept h.2.1.2 (fun a _ h2 => hk a (Nat.lt_of_not_le h2))⟩, h.2.2.1, Nat.le_trans h.2.2.2 hz⟩
/-- a world, its cells apart and all behind h0, and the ambient facts -/
def IH (D : va_G) (cy : Nat → ClassId) (h0 : Nat) (w : va_W) (U : State) (H : Heap) : Prop := amb D cy h0 U H ∧ va_P D vwCl w H ∧ va_D (fun a => h0 ≤ a) w
def pI (D : va_G) (cy : Nat → ClassId) (h0 : Nat) (w : va_W) (U : State) : Prop := IH D cy h0 w U U.heap
variable {D : va_G} {cy : Nat → ClassId} {h0 : Nat} {w w' w1 w2 : va_W} {s U : State} {H H1 : Heap}
theorem IH.warm (h : IH D cy h0 w s H) (hW : s.WarmedH U.vm) (hU : U.heap = H) : IH D cy h0 w U U.heap := by
  rw [hU]; exact ⟨h.1.warm hW, h.2⟩
theorem IH.keep (h : IH D cy h0 w s H) (hz : H.size ≤ H1.size) (hk : ∀ a : Nat, a < H.size → H1[a]? = H[a]?) : IH D cy h0 w s H1 :=
  ⟨h.1.keep hz (fun a ha => hk a (Nat.lt_of_lt_of_le ha h.1.2.2.2)), h.2.1.kept (fun k q hq => hk q.1 (h.2.1 k q hq).lt), h.2.2⟩
theorem pI.blind {av : List Value} : FrameBlind (va_Pc av (pI D cy h0 w)) := fun _ U _ _ h => ⟨h.1, IH.warm h.2 (State.WarmedH.refl U) rfl⟩
theorem IH.preV {b : Nat} {As : List Value} {k0 ci : Nat} {fs : List Value} {q : vw_C} (h : IH D cy h0 w s H) (hr : w[k0]? = some (b, .inr (ci, fs))) (hc : vwCl[ci]? = some q) : PreV s H q.1 b (va_Pc (.ref b :: As) (pI D cy h0 w)) As :=
  ⟨pI.blind, va_recv h.1.2.2.1 h.2.1 hc hr, fun _ hU hW => ⟨rfl, IH.warm h hW hU⟩⟩
theorem IH.preS {As : List Value} (h : IH D cy h0 w s H) : PreS s H (va_Pc As (pI D cy h0 w)) As := ⟨pI.blind, fun _ hU hW => ⟨rfl, IH.warm h hW hU⟩⟩
theorem preT {As : List Value} : PreS s H (va_Pc As (fun _ => True)) As := ⟨fun _ _ _ _ h => h, fun _ _ _ => ⟨rfl, trivial⟩⟩
theorem IH.dA {A : Nat → Prop} (h : IH D cy h0 w s H) (hA : ∀ (k : Nat) (q : Nat × va_E), w[k]? = some q → A q.1) : va_D A w := h.2.2.weaken (fun k q hq _ => hA k q hq)
theorem va_D.addr {A : Nat → Prop} (hD : va_D A w) (he : w.map (·.1) = w'.map (·.1)) : va_D A w' := by
  have key : ∀ (k : Nat) (q : Nat × va_E), w'[k]? = some q → ∃ q0, w[k]? = some q0 ∧ q0.1 = q.1 := by
    intro k q hk
    have h1 : (w'.map (·.1))[k]? = some q.1 := by rw [List.getElem?_map, hk]; rfl
    rw [← he, List.getElem?_map] at h1
    cases h2 : w[k]? with
    | none => rw [h2] at h1; cases h1
    | some q0 => rw [h2] at h1; exact ⟨q0, rfl, Option.some.inj h1⟩
  refine ⟨fun i j x y hi hj hxy => ?_, fun k q hk => ?_⟩
  · obtain ⟨x0, h1, h2⟩ := key i x hi
    obtain ⟨y0, h3, h4⟩ := key j y hj
    exact hD.1 i j x0 y0 h1 h3 (h2.trans (hxy.trans h4.symm))
  · obtain ⟨q0, h1, h2⟩ := key k q hk
    rw [← h2]
    exact hD.2 k q0 h1
theorem va_S.mono {A B : Nat → Prop} {H0 : Heap} {locs : List Loc} (h : va_S A H0 H locs) (hAB : ∀ a, A a → B a) : va_S B H0 H locs := ⟨h.1, fun q h1 h2 => h.2.1 q h1 (fun z => h2 (hAB q z)), fun l hl => hAB _ (h.2.2 l hl)⟩
theorem amb.put {A : Nat → Prop} {H0 : Heap} {locs locs1 : List Loc} (h : amb D cy h0 s H) (hS : va_S A H0 H locs) (hS1 : va_S A H0 H1 locs1) (hA : ∀ a, A a → h0 ≤ a) (hh : h0 ≤ H0.size) : amb D cy h0 s H1 :=
  ⟨h.1, ⟨vx_Zq.kept h.2.1.1 (fun a _ h2 => by have h3 := Nat.lt_of_not_le h2; rw [hS1.2.1 a (Nat.lt_of_lt_of_le h3 hh) (fun z => h2 (hA a z)), hS.2.1 a (Nat.lt_of_lt_of_le h3 hh) (fun z => h2 (hA a z))]),
    vx_Zq.kept h.2.1.2 (fun a _ h2 => by have h3 := Nat.lt_of_not_le h2; rw [hS1.2.1 a (Nat.lt_of_lt_of_le h3 hh) (fun z => h2 (hA a z)), hS.2.1 a (Nat.lt_of_lt_of_le h3 hh) (fun z => h2 (hA a z))])⟩, h.2.2.1, Nat.le_trans hh hS1.1⟩
/-- part of a world -/
theorem IH.sub (h : IH D cy h0 w s H) (is : List Nat) (hn : va_nd is = true) (hs : is.map (fun i => w[i]?) = w'.map some) (hs2 : is.filterMap (fun i => w[i]?) = w') : IH D cy h0 w' s H := ⟨h.1, h.2.1.sub is hs2, h.2.2.sub is hn hs⟩
/-- how an answer or a throw is counted -/
def c1 : Option String → Nat
  | none => 0
  | some _ => 1
def c6 : Option String → Nat
  | none => 0
  | some _ => 6
/-- the ends of methods that change nothing -/
abbrev roI (v : Int32) := va_Qi (fun (r : Int32) (_ : Unit) => r = v) (fun _ _ => True) (fun _ => False)
abbrev roL (v : Int64) := va_Ql (fun (r : Int64) (_ : Unit) => r = v) (fun _ _ => True) (fun _ => False)
abbrev roF (v : UInt32) := va_Qf (fun (r : UInt32) (_ : Unit) => r = v) (fun _ _ => True) (fun _ => False)
abbrev roV := va_Qv (fun (_ : Unit) => True) (fun _ _ => True) (fun _ => False)
/-- .. and of such as leave the world w', changing cells of A alone -/
abbrev rwI (v : Int32) (D : va_G) (cy : Nat → ClassId) (h0 : Nat) (w : va_W) (A : Nat → Prop) := va_Qi (fun (r : Int32) (_ : Unit) => r = v) (fun _ t => pI D cy h0 w t) A
abbrev rwL (v : Int64) (D : va_G) (cy : Nat → ClassId) (h0 : Nat) (w : va_W) (A : Nat → Prop) := va_Ql (fun (r : Int64) (_ : Unit) => r = v) (fun _ t => pI D cy h0 w t) A
abbrev rwF (v : UInt32) (D : va_G) (cy : Nat → ClassId) (h0 : Nat) (w : va_W) (A : Nat → Prop) := va_Qf (fun (r : UInt32) (_ : Unit) => r = v) (fun _ t => pI D cy h0 w t) A
abbrev rwV (D : va_G) (cy : Nat → ClassId) (h0 : Nat) (w : va_W) (A : Nat → Prop) := va_Qv (fun (_ : Unit) => True) (fun _ t => pI D cy h0 w t) A
/-- .. of methods that may throw: they answer where ex is none -/
abbrev xoI (ex : Option String) (v : Int32) := va_Qi (fun (r : Int32) (_ : Unit) => ex = none ∧ r = v) (fun _ _ => True) (fun _ => False)
abbrev xoF (ex : Option String) (v : UInt32) := va_Qf (fun (r : UInt32) (_ : Unit) => ex = none ∧ r = v) (fun _ _ => True) (fun _ => False)
abbrev xoV (ex : Option String) := va_Qv (fun (_ : Unit) => ex = none) (fun _ _ => True) (fun _ => False)
abbrev xwI (ex : Option String) (v : Int32) (D : va_G) (cy : Nat → ClassId) (h0 : Nat) (w : va_W) (A : Nat → Prop) := va_Qi (fun (r : Int32) (_ : Unit) => ex = none ∧ r = v) (fun _ t => pI D cy h0 w t) A
abbrev xx (ex : Option String) := vx_X (fun (_ : Unit) => True) (fun E _ _ => ex = some E) (fun _ => False)
abbrev rmX (ex : Option String) (f n : Nat) : Room := { frames := f, cells := c1 ex, slots := c6 ex, locals := n }
abbrev rmO (f n : Nat) : Room := { frames := f, cells := 0, slots := 0, locals := n }
abbrev nof : Addr → Prop := fun _ => False
end BASE
