/-! The ambient facts at the law's start, out of the tables' words and what the start gives. Places by wip/whole/gen/part55.py. -/
theorem mem_pl {α : Type} {big : List Cond} (f : α → Cond) (L : List α) (ps : List Nat) (h : L.map f = ps.filterMap (fun i => big[i]?)) : ∀ x ∈ L, f x ∈ big := fun x hx => by
  have h1 : f x ∈ L.map f := List.mem_map_of_mem hx
  rw [h] at h1
  obtain ⟨i, -, hi⟩ := List.mem_filterMap.mp h1
  exact List.mem_of_getElem? hi
def lw_fl : List Cond := flatC (Jvm.Cond.and given_1 narrow_1)
set_option maxRecDepth 20000 in
theorem m_aF : ∀ x ∈ aF, Cond.fieldLinkNest RX3 x.1 x.2.1 x.2.2.1 x.2.2.2 RX3 ∈ lw_tbl := mem_pl (fun x => Cond.fieldLinkNest RX3 x.1 x.2.1 x.2.2.1 x.2.2.2 RX3) aF [118, 100, 102, 104, 108, 110, 73, 116, 112, 106, 114, 151, 149, 147, 80, 77, 76] (by decide +kernel)
set_option maxRecDepth 20000 in
theorem m_aM : ∀ x ∈ aM, Cond.methodLinkNest x.1 x.2.1 x.2.2 RX3 ∈ lw_tbl := mem_pl (fun x => Cond.methodLinkNest x.1 x.2.1 x.2.2 RX3) aM [68, 95, 142, 307, 348, 352, 360, 361, 362, 388, 418, 422, 424, 445, 457, 499, 545, 546, 626] (by decide +kernel)
set_option maxRecDepth 20000 in
theorem m_aC : ∀ x ∈ aC, Cond.castable x x ∈ lw_tbl := mem_pl (fun x => Cond.castable x x) aC [222, 293, 325, 430, 508] (by decide +kernel)
set_option maxRecDepth 20000 in
theorem m_aD : ∀ x ∈ aD, Cond.declares x ∈ lw_tbl := mem_pl Cond.declares aD [226, 224, 228] (by decide +kernel)
set_option maxRecDepth 20000 in
theorem m_aS : ∀ x ∈ aS, Cond.stringRef RX3 x.1 x.2 ∈ lw_tbl := mem_pl (fun x => Cond.stringRef RX3 x.1 x.2) aS [380, 396, 409, 423, 437, 444, 529, 530, 586, 594, 609, 617, 625, 660, 668, 676, 263, 408, 332, 469, 641, 515, 290, 300, 339, 379] (by decide +kernel)
set_option maxRecDepth 20000 in
theorem m_aN : ∀ x ∈ aN, Cond.not (.castable x.1 x.2) ∈ lw_fl := mem_pl (fun x => Cond.not (.castable x.1 x.2)) aN [20, 29, 38, 47, 11, 30, 39, 48, 12, 21, 40, 49, 13, 22, 31, 50, 14, 23, 32, 41] (by decide +kernel)
set_option maxRecDepth 20000 in
theorem m_aE : ∀ x ∈ aS, Cond.exactly (.string RX3 x.1) "java/lang/String" ∈ lw_fl := mem_pl (fun x => Cond.exactly (.string RX3 x.1) "java/lang/String") aS [179, 225, 259, 280, 304, 328, 403, 452, 477, 500, 527, 557, 579, 627, 645, 668, 51, 243, 129, 357, 609, 374, 69, 102, 144, 163] (by decide +kernel)
set_option maxRecDepth 20000 in
theorem m_z1 : Cond.isRef (.static Bundle.tN "UNASSIGNED_STACK" Bundle.steD) ∈ lw_fl := List.mem_of_getElem? (i := 4) (by decide +kernel)
set_option maxRecDepth 20000 in
theorem m_z2 : Cond.isRef (.static Bundle.tN "SUPPRESSED_SENTINEL" Bundle.listD) ∈ lw_fl := List.mem_of_getElem? (i := 5) (by decide +kernel)
set_option maxRecDepth 20000 in
theorem m_z3 : Cond.laysStatic Bundle.tN "UNASSIGNED_STACK" Bundle.steD ∈ lw_tbl := List.mem_of_getElem? (i := 247) (by decide +kernel)
set_option maxRecDepth 20000 in
theorem m_z4 : Cond.laysStatic Bundle.tN "SUPPRESSED_SENTINEL" Bundle.listD ∈ lw_tbl := List.mem_of_getElem? (i := 249) (by decide +kernel)
set_option maxRecDepth 20000 in
theorem m_z5 : Cond.initialized Bundle.tN ∈ lw_tbl := List.mem_of_getElem? (i := 46) (by decide +kernel)
set_option maxRecDepth 20000 in
theorem m_arr_int : Cond.arrayClass .int ∈ lw_tbl := List.mem_of_getElem? (i := 92) (by decide +kernel)
set_option maxRecDepth 20000 in
theorem m_arr_boolean : Cond.arrayClass .boolean ∈ lw_tbl := List.mem_of_getElem? (i := 753) (by decide +kernel)
set_option maxRecDepth 20000 in
theorem m_arr_long : Cond.arrayClass .long ∈ lw_tbl := List.mem_of_getElem? (i := 988) (by decide +kernel)
set_option maxRecDepth 20000 in
theorem m_arr_double : Cond.arrayClass .double ∈ lw_tbl := List.mem_of_getElem? (i := 989) (by decide +kernel)
set_option maxRecDepth 20000 in
theorem m_ins_X0 : Cond.instantiable RX0 10 ∈ lw_tbl := List.mem_of_getElem? (i := 94) (by decide +kernel)
set_option maxRecDepth 20000 in
theorem m_ins_X1 : Cond.instantiable RX1 5 ∈ lw_tbl := List.mem_of_getElem? (i := 67) (by decide +kernel)
set_option maxRecDepth 20000 in
theorem m_ins_X2 : Cond.instantiable RX2 3 ∈ lw_tbl := List.mem_of_getElem? (i := 141) (by decide +kernel)
set_option maxRecDepth 20000 in
theorem m_ins_X3 : Cond.instantiable RX3 7 ∈ lw_tbl := List.mem_of_getElem? (i := 59) (by decide +kernel)
set_option maxRecDepth 20000 in
theorem m_ins_X4 : Cond.instantiable RX4 23 ∈ lw_tbl := List.mem_of_getElem? (i := 678) (by decide +kernel)
section START
variable {s : State} {args : Array Value}
theorem ambW_start (hts : ∀ w ∈ lw_tbl, w.before args s = true) (hg : (Jvm.Cond.and given_1 narrow_1).before args s = true) : ambW s := by
  have hf : ∀ c ∈ lw_fl, c.before args s = true := flat_of_before _ hg
  refine ⟨fun x hx => va_Nw.of rfl (hts _ (m_aF x hx)), fun x hx => va_Nw.of rfl (hts _ (m_aM x hx)), fun x hx => va_Nw.of rfl (hts _ (m_aC x hx)), fun x hx => va_Nw.of rfl (hts _ (m_aD x hx)), fun x hx => va_Nc.of (hf _ (m_aN x hx)), fun x hx => ?_⟩
  obtain ⟨a, -, -, -, ha, -⟩ := Cond.exactly_spec (hf _ (m_aE x hx))
  exact ⟨a, vk_R.of (hts _ (m_aS x hx)) ha⟩
theorem ambZ_start (hts : ∀ w ∈ lw_tbl, w.before args s = true) (hg : (Jvm.Cond.and given_1 narrow_1).before args s = true) : ambZ s.heap.size s s.heap := by
  have hf : ∀ c ∈ lw_fl, c.before args s = true := flat_of_before _ hg
  exact ⟨vx_Zqof (hts _ m_z3) (hts _ m_z5) (hf _ m_z1) (fun a h => Nat.not_le.mpr h), vx_Zqof (hts _ m_z4) (hts _ m_z5) (hf _ m_z2) (fun a h => Nat.not_le.mpr h)⟩
theorem arr_start {ty : FieldType} (h : (Cond.arrayClass ty).before args s = true) (hp : ∀ C, ty ≠ .object C) : ∃ cA : ClassId, ArrOfT s cA ty ∧ s.vm.findClass ("[" ++ ty.toString) = some cA := by
  obtain ⟨cA, kA, comp, h1, h2, h3⟩ := Cond.arrayClass_spec h
  exact ⟨cA, fun n z => ⟨fun k h => (by cases h), kA, h2, comp, h3⟩, h1⟩
theorem amb_start (hts : ∀ w ∈ lw_tbl, w.before args s = true) (hg : (Jvm.Cond.and given_1 narrow_1).before args s = true) : ∃ (D : va_G) (cy : Nat → ClassId), amb D cy s.heap.size s s.heap := by
  obtain ⟨c0, i0, k0⟩ := u_known hts inX0 (hts _ m_ins_X0)
  obtain ⟨c1, i1, k1⟩ := u_known hts inX1 (hts _ m_ins_X1)
  obtain ⟨c2, i2, k2⟩ := u_known hts inX2 (hts _ m_ins_X2)
  obtain ⟨c3, i3, k3⟩ := u_known hts inX3 (hts _ m_ins_X3)
  obtain ⟨c4, i4, k4⟩ := u_known hts inX4 (hts _ m_ins_X4)
  obtain ⟨y0, a0, e0⟩ := arr_start (hts _ m_arr_int) (fun _ => FieldType.noConfusion)
  obtain ⟨y1, a1, e1⟩ := arr_start (hts _ m_arr_boolean) (fun _ => FieldType.noConfusion)
  obtain ⟨y2, a2, e2⟩ := arr_start (hts _ m_arr_long) (fun _ => FieldType.noConfusion)
  obtain ⟨y3, a3, e3⟩ := arr_start (hts _ m_arr_double) (fun _ => FieldType.noConfusion)
  refine ⟨(fun c => match c with | 0 => c0 | 1 => c1 | 2 => c2 | 3 => c3 | _ => c4, fun c => match c with | 0 => i0 | 1 => i1 | 2 => i2 | 3 => i3 | _ => i4), fun k => match k with | 0 => y0 | 1 => y1 | 2 => y2 | _ => y3, ambW_start hts hg, ambZ_start hts hg, ⟨fun c q hq => ?_, fun k q hq => ?_⟩, Nat.le_refl _⟩
  · match c, hq with
    | 0, hq => cases hq; exact k0
    | 1, hq => cases hq; exact k1
    | 2, hq => cases hq; exact k2
    | 3, hq => cases hq; exact k3
    | 4, hq => cases hq; exact k4
    | n + 5, hq => cases hq
  · match k, hq with
    | 0, hq => cases hq; exact ⟨a0, e0⟩
    | 1, hq => cases hq; exact ⟨a1, e1⟩
    | 2, hq => cases hq; exact ⟨a2, e2⟩
    | 3, hq => cases hq; exact ⟨a3, e3⟩
    | n + 4, hq => cases hq
end START
